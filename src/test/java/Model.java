import java.util.ArrayList;
import java.util.Arrays;
import java.util.LinkedHashSet;
import java.util.List;
import java.util.Map;
import java.util.Set;
import java.util.TreeMap;
import java.util.TreeSet;

/**
 * The document once more, in another way: maps, lists and recursion where the program has rows.
 * RandomRunsTest lets both answer the same calls.
 */
final class Model {
    private static final class Fetch {
        int root;
        int peer;
        int state;
    }

    private static final class Letter {
        int kind;
        int from;
        int to;
        int name;
        List<Integer> bytes;
    }

    private final List<Integer> buffer = new ArrayList<>();
    private final TreeMap<Integer, Integer> list = new TreeMap<>();
    private final List<Map<Integer, List<Integer>>> stores = new ArrayList<>();
    private final List<Set<String>> pins = new ArrayList<>();
    private final Fetch[] fetches = new Fetch[3];
    private final List<Letter> line = new ArrayList<>();

    Model() {
        for (int i = 0; i < 3; i++) {
            stores.add(new TreeMap<>());
            pins.add(new TreeSet<>());
        }
    }

    static int hash(List<Integer> bytes) {
        long h = 40503;
        for (int b : bytes) {
            h = (263 * h + b + 1) % 65521;
        }
        return (int) h;
    }

    private static boolean noStore(int store) {
        return store != 0 && store != 1 && store != 2;
    }

    private static int two(List<Integer> row, int i) {
        return row.get(i) + 256 * row.get(i + 1);
    }

    /** Each part of a block: what stands before the link (or 0), and the link; null if it is no block. */
    private static List<int[]> parts(List<Integer> row) {
        List<int[]> parts = new ArrayList<>();
        if (row.isEmpty() || row.get(0) > 3) {
            return null;
        }
        if (row.get(0) == 0) {
            return row.size() <= 9 ? parts : null;
        }
        if (row.size() < 2) {
            return null;
        }
        int form = row.get(0);
        int second = row.get(1);
        int count = form == 3 ? Integer.bitCount(second) : second;
        int head = form == 1 ? 2 : form == 2 ? 1 : 0;
        boolean headless = form != 2 && second == 0;
        if (headless || form == 3 && second > 15 || count > 4 || row.size() != 2 + count * (head + 2)) {
            return null;
        }
        int before = 0;
        for (int i = 2; i < row.size(); i += head + 2) {
            int value = head == 2 ? two(row, i) : head == 1 ? row.get(i) : 0;
            int link = two(row, i + head);
            if (link > 65520 || form == 1 && value == 0 || form == 2 && value <= before) {
                return null;
            }
            before = value;
            parts.add(new int[] {value, link});
        }
        return parts;
    }

    boolean type(int b) {
        if (b < 0 || b > 255 || buffer.size() == 32) {
            return false;
        }
        buffer.add(b);
        return true;
    }

    void clear() {
        buffer.clear();
        list.clear();
    }

    int name() {
        return hash(buffer);
    }

    int put(int store) {
        if (noStore(store) || parts(buffer) == null) {
            return -1;
        }
        List<List<Integer>> rows = new ArrayList<>();
        rows.add(new ArrayList<>(buffer));
        int answer = bring(store, rows);
        if (answer >= 0) {
            buffer.clear();
        }
        return answer;
    }

    /** The last row is the one whose name is answered. */
    private int bring(int store, List<List<Integer>> rows) {
        Map<Integer, List<Integer>> all = new TreeMap<>(stores.get(store));
        for (List<Integer> row : rows) {
            List<Integer> there = all.putIfAbsent(hash(row), row);
            if (there != null && !there.equals(row)) {
                return -2;
            }
        }
        if (all.size() > 64) {
            return -3;
        }
        stores.set(store, all);
        settle(store);
        return hash(rows.get(rows.size() - 1));
    }

    int add(int store, int chunk, int fan) {
        if (noStore(store) || chunk < 0 || chunk > 8 || fan < 2 || fan > 4) {
            return -1;
        }
        List<List<Integer>> rows = new ArrayList<>();
        List<int[]> level = new ArrayList<>();
        for (List<Integer> piece : pieces(chunk)) {
            List<Integer> leaf = new ArrayList<>(List.of(0));
            leaf.addAll(piece);
            rows.add(leaf);
            level.add(new int[] {piece.size(), hash(leaf)});
        }
        while (level.size() > 1) {
            List<int[]> next = new ArrayList<>();
            for (int i = 0; i < level.size(); i += fan) {
                List<int[]> group = level.subList(i, Math.min(level.size(), i + fan));
                List<Integer> tree = new ArrayList<>(List.of(1, group.size()));
                int sum = 0;
                for (int[] part : group) {
                    tree.addAll(List.of(part[0] % 256, part[0] / 256, part[1] % 256, part[1] / 256));
                    sum += part[0];
                }
                rows.add(tree);
                next.add(new int[] {sum, hash(tree)});
            }
            level = next;
        }
        int answer = bring(store, rows);
        if (answer >= 0) {
            buffer.clear();
        }
        return answer;
    }

    private List<List<Integer>> pieces(int chunk) {
        List<List<Integer>> pieces = new ArrayList<>();
        List<Integer> piece = new ArrayList<>();
        for (int b : buffer) {
            piece.add(b);
            int n = piece.size();
            boolean byContent = n == 8 || n > 1 && (b + 3 * piece.get(n - 2)) % 5 == 0;
            if (chunk == 0 ? byContent : n == chunk) {
                pieces.add(piece);
                piece = new ArrayList<>();
            }
        }
        if (!piece.isEmpty() || pieces.isEmpty()) {
            pieces.add(piece);
        }
        return pieces;
    }

    boolean entry(int title, int name) {
        if (title < 1 || title > 255 || name < 0 || name > 65520) {
            return false;
        }
        if (list.size() == 16 && !list.containsKey(title)) {
            return false;
        }
        list.put(title, name);
        return true;
    }

    int folder(int store) {
        if (noStore(store)) {
            return -1;
        }
        List<List<Integer>> rows = new ArrayList<>();
        group(new TreeMap<>(list), 0, rows);
        int answer = bring(store, rows);
        if (answer >= 0) {
            list.clear();
        }
        return answer;
    }

    private static int branch(int title, int s) {
        return Math.floorMod(37L * title, 256) / (1 << (2 * s)) % 4;
    }

    private static int group(TreeMap<Integer, Integer> titles, int s, List<List<Integer>> rows) {
        List<Integer> row = new ArrayList<>();
        if (titles.size() <= 4) {
            row.addAll(List.of(2, titles.size()));
            titles.forEach((title, name) -> row.addAll(List.of(title, name % 256, name / 256)));
        } else {
            row.addAll(List.of(3, 0));
            for (int b = 0; b < 4; b++) {
                TreeMap<Integer, Integer> some = new TreeMap<>(titles);
                int bits = b;
                some.keySet().removeIf(title -> branch(title, s) != bits);
                if (!some.isEmpty()) {
                    int link = group(some, s + 1, rows);
                    row.set(1, row.get(1) + (1 << b));
                    row.addAll(List.of(link % 256, link / 256));
                }
            }
        }
        rows.add(row);
        return hash(row);
    }

    private List<Integer> block(int store, int name) {
        return noStore(store) ? null : stores.get(store).get(name);
    }

    int bytes(int store, int name) {
        List<Integer> row = block(store, name);
        return row == null ? -1 : row.size();
    }

    int raw(int store, int name, int i) {
        List<Integer> row = block(store, name);
        return row == null || i < 0 || i >= row.size() ? -1 : row.get(i);
    }

    int length(int store, int name) {
        List<Integer> row = block(store, name);
        if (row == null || row.get(0) > 1) {
            return -1;
        }
        if (row.get(0) == 0) {
            return row.size() - 1;
        }
        return parts(row).stream().mapToInt(part -> part[0]).sum();
    }

    int read(int store, int name, int p) {
        return p < 0 || p >= length(store, name) ? -1 : readOn(store, name, p, 0);
    }

    private int readOn(int store, int name, int p, int links) {
        List<Integer> row = block(store, name);
        if (links > 10) {
            return -2;
        }
        if (row.get(0) == 0) {
            return row.get(1 + p);
        }
        int before = 0;
        for (int[] part : parts(row)) {
            if (p < before + part[0]) {
                boolean whole = length(store, part[1]) == part[0];
                return whole ? readOn(store, part[1], p - before, links + 1) : -2;
            }
            before += part[0];
        }
        return -2;
    }

    int find(int store, int name, int title) {
        List<Integer> row = block(store, name);
        return row == null || row.get(0) < 2 ? -1 : findOn(store, row, title, 0);
    }

    private int findOn(int store, List<Integer> row, int title, int s) {
        if (row == null || row.get(0) < 2 || row.get(0) == 3 && s == 4) {
            return -2;
        }
        List<int[]> parts = parts(row);
        if (row.get(0) == 2) {
            return parts.stream().filter(part -> part[0] == title).mapToInt(part -> part[1]).findFirst().orElse(-1);
        }
        int at = 0;
        for (int b = 0; b < 4; b++) {
            boolean there = (row.get(1) >> b) % 2 == 1;
            if (b == branch(title, s)) {
                return there ? findOn(store, block(store, parts.get(at)[1]), title, s + 1) : -1;
            }
            at += there ? 1 : 0;
        }
        return -2;
    }

    boolean pin(int store, int name, boolean deep, boolean on) {
        if (noStore(store)) {
            return false;
        }
        String pin = name + (deep ? " deep" : " plain");
        if (!on) {
            return pins.get(store).remove(pin);
        }
        return block(store, name) != null && pins.get(store).size() < 8 && pins.get(store).add(pin);
    }

    /** All names under a name, there or not, in the order of the walk. */
    private void under(int store, int name, Set<Integer> names) {
        List<Integer> row = block(store, name);
        if (names.add(name) && row != null) {
            for (int[] part : parts(row)) {
                under(store, part[1], names);
            }
        }
    }

    int collect(int store) {
        if (noStore(store)) {
            return -1;
        }
        Set<Integer> kept = new TreeSet<>();
        for (String pin : pins.get(store)) {
            int name = Integer.parseInt(pin.split(" ")[0]);
            Set<Integer> some = new LinkedHashSet<>(List.of(name));
            if (pin.endsWith("deep")) {
                some.clear();
                under(store, name, some);
            }
            kept.addAll(some);
        }
        if (state(store) == 1) {
            Set<Integer> some = new LinkedHashSet<>();
            under(store, fetches[store].root, some);
            kept.addAll(some);
        }
        int before = stores.get(store).size();
        stores.get(store).keySet().retainAll(kept);
        return before - stores.get(store).size();
    }

    int blocks(int store) {
        return noStore(store) ? -1 : stores.get(store).size();
    }

    private List<Integer> missing(int store) {
        Set<Integer> names = new LinkedHashSet<>();
        under(store, fetches[store].root, names);
        names.removeAll(stores.get(store).keySet());
        return new ArrayList<>(names);
    }

    private void settle(int store) {
        if (state(store) == 1 && missing(store).isEmpty()) {
            fetches[store].state = 2;
        }
    }

    private void send(int kind, int from, int to, int name, List<Integer> bytes) {
        Letter letter = new Letter();
        letter.kind = kind;
        letter.from = from;
        letter.to = to;
        letter.name = name;
        letter.bytes = bytes;
        if (line.size() < 24) {
            line.add(letter);
        }
    }

    private int want(int store, List<Integer> names) {
        for (int name : names) {
            send(0, store, fetches[store].peer, name, null);
        }
        return names.size();
    }

    int fetch(int store, int peer, int name) {
        if (noStore(store) || noStore(peer) || store == peer || name < 0 || name > 65520) {
            return -1;
        }
        Fetch fetch = new Fetch();
        fetch.root = name;
        fetch.peer = peer;
        fetch.state = 1;
        fetches[store] = fetch;
        settle(store);
        return want(store, missing(store));
    }

    int retry(int store) {
        return state(store) == 1 ? want(store, missing(store)) : -1;
    }

    private boolean none(int k) {
        return k < 0 || k >= line.size();
    }

    int deliver(int k) {
        if (none(k)) {
            return -1;
        }
        Letter letter = line.remove(k);
        if (letter.kind == 0) {
            List<Integer> row = block(letter.to, letter.name);
            send(row == null ? 2 : 1, letter.to, letter.from, letter.name, row == null ? null : new ArrayList<>(row));
            return 0;
        }
        int name = letter.kind == 1 ? hash(letter.bytes) : letter.name;
        boolean awaited = state(letter.to) == 1 && fetches[letter.to].peer == letter.from
                && missing(letter.to).contains(name);
        if (letter.kind == 2 && awaited) {
            fetches[letter.to].state = 3;
        }
        if (letter.kind == 1 && awaited && parts(letter.bytes) != null) {
            List<Integer> before = missing(letter.to);
            if (bring(letter.to, List.of(letter.bytes)) == -3) {
                fetches[letter.to].state = 3;
                return 1;
            }
            List<Integer> after = missing(letter.to);
            after.removeAll(before);
            want(letter.to, after);
        }
        return letter.kind;
    }

    boolean harm(int k, int i, int x) {
        if (none(k)) {
            return false;
        }
        if (x == 0) {
            line.remove(k);
            return true;
        }
        Letter letter = line.get(k);
        if (letter.kind != 1 || i < 0 || i >= letter.bytes.size()) {
            return false;
        }
        letter.bytes.set(i, letter.bytes.get(i) ^ Math.floorMod(x, 256));
        return true;
    }

    int message(int k, int what) {
        if (none(k) || what < 0 || what > 3) {
            return -1;
        }
        Letter letter = line.get(k);
        int name = letter.kind == 1 ? hash(letter.bytes) : letter.name;
        return Arrays.asList(letter.kind, letter.from, letter.to, name).get(what);
    }

    int waiting() {
        return line.size();
    }

    int state(int store) {
        return noStore(store) ? -1 : fetches[store] == null ? 0 : fetches[store].state;
    }

    /** Names that a run may ask for: those that are there in some store, and those linked there. */
    List<Integer> knownNames() {
        Set<Integer> names = new TreeSet<>();
        for (Map<Integer, List<Integer>> store : stores) {
            store.forEach((name, row) -> {
                names.add(name);
                parts(row).forEach(part -> names.add(part[1]));
            });
        }
        return new ArrayList<>(names);
    }

    List<Integer> bufferBytes() {
        return buffer;
    }
}
