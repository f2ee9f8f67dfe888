import java.util.List;
import java.util.Random;

/** Runs of 512 calls from a fixed seed, each answered by the program and by the model. */
public final class RandomRunsTest {
    private static final int RUNS = 4000;
    private static final int CALLS = 512;
    private static final Check check = new Check("RandomRunsTest");

    private final Random random;
    private final int flavour;
    private final BlockExchange x = new BlockExchange();
    private final Model model = new Model();
    private int calls = 0;

    private RandomRunsTest(int seed) {
        random = new Random(seed);
        flavour = seed % 4;
    }

    public static void main(String[] args) {
        for (int seed = 0; seed < RUNS; seed++) {
            RandomRunsTest run = new RandomRunsTest(seed);
            while (run.calls < CALLS) {
                run.step();
            }
        }
        check.end();
    }

    private void due(String call, int got, int want) {
        calls++;
        check.due(call + " as call " + calls, got, want);
    }

    private void due(String call, boolean got, boolean want) {
        due(call, got ? 1 : 0, want ? 1 : 0);
    }

    private boolean oneIn(int n) {
        return random.nextInt(n) == 0;
    }

    private int store() {
        return oneIn(60) ? random.nextInt(7) - 2 : random.nextInt(3);
    }

    private int name() {
        List<Integer> known = model.knownNames();
        if (known.isEmpty() || oneIn(25)) {
            return random.nextInt(65600) - 30;
        }
        return known.get(random.nextInt(known.size()));
    }

    private int message() {
        return oneIn(12) ? random.nextInt(28) - 2 : random.nextInt(Math.max(1, model.waiting()));
    }

    private void type(int b) {
        due("type", x.type(b), model.type(b));
    }

    private void typePair(int number) {
        type(number % 256);
        type(number / 256);
    }

    private void clear() {
        x.clear();
        model.clear();
        calls++;
    }

    private void step() {
        switch (random.nextInt(14)) {
            case 0:
                typeBlock();
                break;
            case 1:
                addFile();
                break;
            case 2:
                addFolder();
                break;
            case 3:
            case 4:
                ask();
                break;
            case 5:
                pinOrCollect();
                break;
            case 6:
                startFetch();
                break;
            case 7:
                disturb();
                break;
            default:
                talk();
        }
    }

    /** A leaf, tree, folder or shard, now and then a wrong one or one with a name that is there already. */
    private void typeBlock() {
        if (!oneIn(10)) {
            clear();
        }
        int form = oneIn(40) ? random.nextInt(6) : random.nextInt(4);
        int count = oneIn(30) ? random.nextInt(6) : 1 + random.nextInt(4);
        type(form);
        if (form == 0) {
            for (int i = 0; i < 2 * count; i++) {
                type(oneIn(4) ? random.nextInt(256) : random.nextInt(3));
            }
        } else {
            type(form == 3 ? (1 << count) - 1 : count);
            int title = 0;
            for (int i = 0; i < count; i++) {
                int link = Math.max(0, Math.min(name(), oneIn(30) ? 65521 : 65520));
                if (form == 1) {
                    int length = model.length(random.nextInt(3), link);
                    typePair(length < 1 || oneIn(20) || length > 65535 ? random.nextInt(5) : length);
                } else if (form == 2) {
                    title = oneIn(30) ? title : Math.min(255, title + 1 + random.nextInt(60));
                    type(title);
                }
                typePair(link);
            }
        }
        if (oneIn(4)) {
            twist();
        }
        int store = store();
        due("put", x.put(store), model.put(store));
        due("name", x.name(), model.name());
    }

    /** Types the buffer anew with another row of the same name, where that can be done in two bytes. */
    private void twist() {
        List<Integer> bytes = List.copyOf(model.bufferBytes());
        for (int i = 1; i + 1 < bytes.size(); i++) {
            if (bytes.get(i) <= 6 && bytes.get(i + 1) <= 221) {
                clear();
                for (int j = 0; j < bytes.size(); j++) {
                    type(bytes.get(j) + (j == i ? 249 : j == i + 1 ? 34 : 0));
                }
                return;
            }
        }
    }

    private void addFile() {
        if (!oneIn(5)) {
            clear();
        }
        int count = oneIn(3) ? random.nextInt(34) : random.nextInt(10);
        int span = oneIn(2) ? 256 : 3;
        for (int i = 0; i < count; i++) {
            type(random.nextInt(span));
        }
        if (oneIn(6)) {
            twist();
        }
        int store = store();
        int chunk = oneIn(30) ? random.nextInt(14) - 2 : random.nextInt(9);
        int fan = oneIn(30) ? random.nextInt(8) - 1 : 2 + random.nextInt(3);
        due("add", x.add(store, chunk, fan), model.add(store, chunk, fan));
        due("name", x.name(), model.name());
    }

    private void addFolder() {
        int count = oneIn(3) ? random.nextInt(18) : random.nextInt(6);
        for (int i = 0; i < count; i++) {
            int title = oneIn(40) ? random.nextInt(300) - 20 : 1 + random.nextInt(oneIn(2) ? 255 : 12);
            int name = name();
            due("entry", x.entry(title, name), model.entry(title, name));
        }
        int store = store();
        due("folder", x.folder(store), model.folder(store));
    }

    private void ask() {
        for (int i = 0; i < 4; i++) {
            int store = store();
            int name = name();
            int at = random.nextInt(22) - 2;
            int title = random.nextInt(280) - 10;
            due("bytes", x.bytes(store, name), model.bytes(store, name));
            due("raw", x.raw(store, name, at), model.raw(store, name, at));
            due("length", x.length(store, name), model.length(store, name));
            due("read", x.read(store, name, at), model.read(store, name, at));
            due("find", x.find(store, name, title), model.find(store, name, title));
            due("find", x.find(store, name, at), model.find(store, name, at));
        }
        int store = store();
        due("blocks", x.blocks(store), model.blocks(store));
        due("state", x.state(store), model.state(store));
    }

    private void pinOrCollect() {
        int store = store();
        if (oneIn(flavour == 0 ? 3 : 12)) {
            due("collect", x.collect(store), model.collect(store));
            due("blocks", x.blocks(store), model.blocks(store));
            return;
        }
        int name = name();
        boolean deep = random.nextBoolean();
        boolean on = !oneIn(4);
        due("pin", x.pin(store, name, deep, on), model.pin(store, name, deep, on));
        due("pin", x.pin(store, name, deep, true), model.pin(store, name, deep, true));
    }

    private void startFetch() {
        int store = store();
        int peer = oneIn(20) ? store() : (store + 1 + random.nextInt(2)) % 3;
        int name = name();
        if (model.state(store) == 1 && !oneIn(5)) {
            due("retry", x.retry(store), model.retry(store));
        } else {
            due("fetch", x.fetch(store, peer, name), model.fetch(store, peer, name));
        }
        due("state", x.state(store), model.state(store));
    }

    private void disturb() {
        int k = message();
        int i = random.nextInt(20) - 1;
        int by = oneIn(2) ? 0 : oneIn(3) ? random.nextInt() : 1 << random.nextInt(9);
        if (flavour == 1 && by == 0) {
            by = 256;
        }
        due("harm", x.harm(k, i, by), model.harm(k, i, by));
        for (int what = -1; what < 5; what++) {
            due("message", x.message(k, what), model.message(k, what));
        }
    }

    private void talk() {
        for (int i = 0; i < 6; i++) {
            int k = message();
            due("message", x.message(k, 3), model.message(k, 3));
            due("deliver", x.deliver(k), model.deliver(k));
            due("waiting", x.waiting(), model.waiting());
        }
        int store = random.nextInt(3);
        due("state", x.state(store), model.state(store));
        due("blocks", x.blocks(store), model.blocks(store));
    }
}
