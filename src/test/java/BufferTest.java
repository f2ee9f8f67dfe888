/** Promises 1 (a new object), 2 (type), 3 (clear) and 4 (name). */
public final class BufferTest {
    private static final Check check = new Check("BufferTest");

    public static void main(String[] args) {
        newObject();
        typing();
        clearing();
        naming();
        check.end();
    }

    private static void newObject() {
        BlockExchange x = new BlockExchange();
        for (int store = 0; store < 3; store++) {
            check.due("blocks", x.blocks(store), 0);
            check.due("state", x.state(store), 0);
            check.due("retry", x.retry(store), -1);
            check.due("collect", x.collect(store), 0);
        }
        check.due("waiting", x.waiting(), 0);
        check.due("message", x.message(0, 0), -1);
        check.due("name", x.name(), 40503);
        check.due("put of nothing", x.put(0), -1);
        check.due("folder of nothing", x.folder(0), 5879);
        check.hasBlock(x, 0, 2, 0);
    }

    private static void typing() {
        BlockExchange x = new BlockExchange();
        check.due("type(-1)", x.type(-1), false);
        check.due("type(256)", x.type(256), false);
        check.due("type(least)", x.type(Integer.MIN_VALUE), false);
        check.due("type(most)", x.type(Integer.MAX_VALUE), false);
        check.due("name after refusals", x.name(), 40503);
        int[] all = new int[32];
        for (int i = 0; i < 32; i++) {
            all[i] = i % 2 == 0 ? 255 - i : i;
            check.type(x, all[i]);
        }
        check.due("name of 32 bytes", x.name(), Check.nameOf(all));
        check.due("33rd byte", x.type(0), false);
        check.due("33rd byte, wrong", x.type(256), false);
        check.due("name of 32 bytes still", x.name(), Check.nameOf(all));
    }

    private static void clearing() {
        BlockExchange x = new BlockExchange();
        int kept = check.put(x, 0, 0, 1);
        check.type(x, 5, 6, 7);
        check.due("entry", x.entry(9, 10), true);
        x.clear();
        check.due("name when cleared", x.name(), 40503);
        check.due("folder when cleared", x.folder(1), Check.nameOf(2, 0));
        check.due("blocks when cleared", x.bytes(0, kept), 2);
        check.due("fetch", x.fetch(2, 0, 3), 1);
        x.clear();
        check.due("waiting when cleared", x.waiting(), 1);
        check.due("state when cleared", x.state(2), 1);
        x.clear();
        check.type(x, 0);
        check.due("put after clear", x.put(2), Check.nameOf(0));
    }

    private static void naming() {
        BlockExchange x = new BlockExchange();
        check.type(x, 0);
        check.due("name of 0", x.name(), (263L * 40503 + 1) % 65521);
        check.type(x, 1, 2, 3);
        check.due("name of 0 1 2 3", x.name(), 6927);
        check.due("name again", x.name(), 6927);
        x.clear();
        check.type(x, 0, 249, 34, 7);
        check.due("a second row of name 2757", x.name(), 2757);
        x.clear();
        check.type(x, 0, 0, 0, 7);
        check.due("a first row of name 2757", x.name(), 2757);
        x.clear();
        check.type(x, 255, 255);
        check.due("name of 255 255", x.name(), Check.nameOf(255, 255));
    }
}
