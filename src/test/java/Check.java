/** Compares answers with what is due, and helps the tests to bring bytes into an object. */
final class Check {
    private final String test;
    private String sentence = "";
    private int wrong = 0;
    private int made = 0;

    Check(String test) {
        this.test = test;
    }

    /** The sentence of the document that the next answers are about. */
    void about(String words) {
        sentence = " [" + words + "]";
    }

    void due(String call, long got, long want) {
        same(call, got, want);
    }

    void due(String call, boolean got, boolean want) {
        same(call, got ? 1 : 0, want ? 1 : 0);
    }

    void same(String call, Object got, Object want) {
        made++;
        if (!got.equals(want)) {
            wrong++;
            System.out.println(test + ": " + call + " answered " + got + ", due is " + want + sentence);
        }
    }

    void end() {
        System.out.println(test + ": " + made + " answers, " + wrong + " not as due");
        if (wrong != 0) {
            System.exit(1);
        }
    }

    /** The name of a row of bytes, by the document's words and apart from the program. */
    static int nameOf(int... bytes) {
        long h = 40503;
        for (int b : bytes) {
            h = (263 * h + b + 1) % 65521;
        }
        return (int) h;
    }

    static int low(int number) {
        return number % 256;
    }

    static int high(int number) {
        return number / 256;
    }

    void type(BlockExchange x, int... bytes) {
        for (int b : bytes) {
            due("type(" + b + ")", x.type(b), true);
        }
    }

    /** Puts a block that is sure to come in: its name. */
    int put(BlockExchange x, int store, int... bytes) {
        x.clear();
        type(x, bytes);
        int name = nameOf(bytes);
        due("put(" + store + ")", x.put(store), name);
        return name;
    }

    /** What putting these bytes answers, whatever it is; the buffer is empty then. */
    int tryPut(BlockExchange x, int store, int... bytes) {
        x.clear();
        type(x, bytes);
        int answer = x.put(store);
        x.clear();
        return answer;
    }

    static int[] leaf(int... content) {
        int[] row = new int[1 + content.length];
        System.arraycopy(content, 0, row, 1, content.length);
        return row;
    }

    /** A tree of sizes and links in turn. */
    static int[] tree(int... sizesAndLinks) {
        int[] row = new int[2 + 2 * sizesAndLinks.length];
        row[0] = 1;
        row[1] = sizesAndLinks.length / 2;
        for (int i = 0; i < sizesAndLinks.length; i++) {
            row[2 + 2 * i] = low(sizesAndLinks[i]);
            row[3 + 2 * i] = high(sizesAndLinks[i]);
        }
        return row;
    }

    /** A folder of titles and links in turn. */
    static int[] folder(int... titlesAndLinks) {
        int count = titlesAndLinks.length / 2;
        int[] row = new int[2 + 3 * count];
        row[0] = 2;
        row[1] = count;
        for (int i = 0; i < count; i++) {
            row[2 + 3 * i] = titlesAndLinks[2 * i];
            row[3 + 3 * i] = low(titlesAndLinks[2 * i + 1]);
            row[4 + 3 * i] = high(titlesAndLinks[2 * i + 1]);
        }
        return row;
    }

    static int[] shard(int mask, int... links) {
        int[] row = new int[2 + 2 * links.length];
        row[0] = 3;
        row[1] = mask;
        for (int i = 0; i < links.length; i++) {
            row[2 + 2 * i] = low(links[i]);
            row[3 + 2 * i] = high(links[i]);
        }
        return row;
    }

    /** Whether a store has exactly these bytes under their name. */
    void hasBlock(BlockExchange x, int store, int... bytes) {
        int name = nameOf(bytes);
        due("bytes(" + store + ", " + name + ")", x.bytes(store, name), bytes.length);
        for (int i = 0; i < bytes.length; i++) {
            due("raw(" + store + ", " + name + ", " + i + ")", x.raw(store, name, i), bytes[i]);
        }
    }

    /**
     * Brings a store that is empty to a number of blocks, 50 or more: a file of bytes 100 to 131 with 50 blocks,
     * then leaves of one byte, 0, 1, and so on. It takes 34 calls and 3 for each such leaf; the buffer is empty then.
     */
    void fillTo(BlockExchange x, int store, int blocks) {
        for (int b = 100; b < 132; b++) {
            due("type", x.type(b), true);
        }
        x.add(store, 1, 3);
        for (int b = 0; b < blocks - 50; b++) {
            type(x, 0, b);
            due("put", x.put(store), nameOf(0, b));
        }
        due("blocks of a store that was filled", x.blocks(store), blocks);
    }

    /** Another row with the same name, for a row whose bytes i and i + 1 are at most 6 and 221. */
    static int[] twin(int[] row, int i) {
        int[] other = row.clone();
        // 263 times 249, and 34, are 65521.
        other[i] += 249;
        other[i + 1] += 34;
        return other;
    }

    /** Puts so many leaves of two bytes, the first of them a given one, in four calls each. */
    void fill(BlockExchange x, int store, int first, int leaves) {
        for (int i = 0; i < leaves; i++) {
            int[] row = leaf(first, i);
            type(x, row);
            due("put(" + store + ")", x.put(store), nameOf(row));
        }
    }
}
