/** The edges of the four forms of a block, by put (promise 5) and by a GIVE (promise 19). */
public final class FormEdgesTest {
    private static final Check check = new Check("FormEdgesTest");

    public static void main(String[] args) {
        firstByte();
        leafContent();
        treeCount();
        treeLength();
        treeSizes();
        treeLinks();
        folderCount();
        folderLength();
        folderTitles();
        folderTitlesRise();
        folderLinks();
        shardMask();
        shardLinkCount();
        shardLinks();
        lowByteFirst();
        refusedPutChangesNothing();
        check.end();
    }

    private static void isBlock(int... row) {
        for (int store = 0; store < 3; store++) {
            BlockExchange x = new BlockExchange();
            check.type(x, row);
            check.due("put of a block", x.put(store), Check.nameOf(row));
            check.due("name after put", x.name(), 40503);
            check.due("blocks", x.blocks(store), 1);
            check.hasBlock(x, store, row);
        }
        give(true, row);
    }

    private static void isNoBlock(int... row) {
        for (int store = 0; store < 3; store++) {
            BlockExchange x = new BlockExchange();
            check.type(x, row);
            check.due("put of no block", x.put(store), -1);
            check.due("name after the refusal", x.name(), Check.nameOf(row));
            check.due("blocks after the refusal", x.blocks(store), 0);
            check.due("bytes after the refusal", x.bytes(store, Check.nameOf(row)), -1);
        }
        give(false, row);
    }

    /** A block with so many bytes, or null if no block has so many. */
    private static int[] blockOfLength(int length) {
        if (length >= 1 && length <= 9) {
            return new int[length];
        }
        switch (length) {
            case 10:
                return Check.tree(1, 2, 3, 4);
            case 11:
                return Check.folder(1, 2, 3, 4, 5, 6);
            case 14:
                return Check.tree(1, 2, 3, 4, 5, 6);
            case 18:
                return Check.tree(1, 2, 3, 4, 5, 6, 7, 8);
            default:
                return null;
        }
    }

    /** Lets the row come out of a damaged GIVE while its name is missing: a block comes in, and nothing else does. */
    private static void give(boolean block, int... row) {
        int[] sent = blockOfLength(row.length);
        if (sent == null) {
            return;
        }
        BlockExchange x = new BlockExchange();
        check.due("fetch", x.fetch(1, 0, check.put(x, 0, sent)), 1);
        check.due("deliver the WANT", x.deliver(0), 0);
        for (int i = 0; i < row.length; i++) {
            if (sent[i] != row[i]) {
                check.due("harm", x.harm(0, i, sent[i] ^ row[i]), true);
            }
        }
        int name = Check.nameOf(row);
        check.due("name of the GIVE", x.message(0, 3), name);
        check.due("fetch of what it has become", x.fetch(1, 0, name), 1);
        check.due("deliver the GIVE", x.deliver(0), 1);
        check.due("blocks", x.blocks(1), block ? 1 : 0);
        check.due("bytes", x.bytes(1, name), block ? row.length : -1);
        if (!block) {
            check.due("state", x.state(1), 1);
            check.due("waiting", x.waiting(), 1);
        }
    }

    private static void firstByte() {
        check.about("LEAF: 0 .. TREE: 1 .. FOLDER: 2 .. SHARD: 3");
        isBlock(0);
        isBlock(1, 1, 1, 0, 0, 0);
        isBlock(2, 0);
        isBlock(3, 1, 0, 0);
        isNoBlock();
        for (int first : new int[] {4, 5, 127, 128, 255}) {
            isNoBlock(first);
            isNoBlock(first, 0);
            isNoBlock(first, 1, 0, 0);
            isNoBlock(first, 1, 1, 0, 0);
            isNoBlock(first, 1, 1, 0, 0, 0);
        }
    }

    private static void leafContent() {
        check.about("LEAF: 0, then 0 to 8 bytes, its CONTENT.");
        for (int length = 0; length <= 8; length++) {
            int[] row = new int[1 + length];
            for (int i = 1; i <= length; i++) {
                row[i] = i % 2 == 0 ? i : 256 - i;
            }
            isBlock(row);
        }
        for (int length = 9; length <= 31; length++) {
            isNoBlock(new int[1 + length]);
        }
    }

    private static int[] treeOf(int count) {
        int[] parts = new int[2 * count];
        for (int i = 0; i < 2 * count; i++) {
            parts[i] = 1 + i;
        }
        return Check.tree(parts);
    }

    private static int[] folderOf(int count) {
        int[] parts = new int[2 * count];
        for (int i = 0; i < 2 * count; i++) {
            parts[i] = 1 + i;
        }
        return Check.folder(parts);
    }

    private static int[] with(int[] row, int i, int value) {
        int[] other = row.clone();
        other[i] = value;
        return other;
    }

    private static int[] resized(int[] row, int length) {
        return java.util.Arrays.copyOf(row, length);
    }

    private static void treeCount() {
        check.about("TREE: 1, a count 1 .. 4");
        for (int count = 1; count <= 4; count++) {
            isBlock(treeOf(count));
        }
        isNoBlock(1);
        isNoBlock(1, 0);
        isNoBlock(1, 0, 1, 0, 0, 0);
        isNoBlock(treeOf(5));
        isNoBlock(treeOf(6));
        isNoBlock(treeOf(7));
        for (int count : new int[] {5, 8, 16, 128, 255}) {
            isNoBlock(with(treeOf(4), 1, count));
            isNoBlock(with(treeOf(1), 1, count));
        }
    }

    private static void treeLength() {
        check.about("TREE: then so many times a SIZE and a link");
        for (int count = 1; count <= 4; count++) {
            int whole = 2 + 4 * count;
            for (int length = 2; length <= 32; length++) {
                int[] row = resized(treeOf(7), length);
                row[1] = count;
                if (length == whole) {
                    isBlock(row);
                } else {
                    isNoBlock(row);
                }
            }
        }
    }

    private static void treeSizes() {
        check.about("SIZE (1 .. 65535, two bytes, the low one first)");
        for (int count = 1; count <= 4; count++) {
            for (int i = 0; i < count; i++) {
                int low = 2 + 4 * i;
                isBlock(with(with(treeOf(count), low, 1), low + 1, 0));
                isBlock(with(with(treeOf(count), low, 0), low + 1, 1));
                isBlock(with(with(treeOf(count), low, 255), low + 1, 255));
                isNoBlock(with(with(treeOf(count), low, 0), low + 1, 0));
            }
        }
    }

    /** Links of 65520, which is 240 and 255, and more, in the bytes from low on. */
    private static void linkEdges(int[] row, int low) {
        isBlock(with(with(row, low, 0), low + 1, 0));
        isBlock(with(with(row, low, 255), low + 1, 254));
        isBlock(with(with(row, low, 240), low + 1, 255));
        isNoBlock(with(with(row, low, 241), low + 1, 255));
        isNoBlock(with(with(row, low, 255), low + 1, 255));
    }

    private static void treeLinks() {
        check.about("TREE: links are names, 0 .. 65520");
        for (int count = 1; count <= 4; count++) {
            for (int i = 0; i < count; i++) {
                linkEdges(treeOf(count), 4 + 4 * i);
            }
        }
    }

    private static void folderCount() {
        check.about("FOLDER: 2, a count 0 .. 4");
        for (int count = 0; count <= 4; count++) {
            isBlock(folderOf(count));
        }
        isNoBlock(2);
        isNoBlock(folderOf(5));
        isNoBlock(folderOf(6));
        isNoBlock(folderOf(10));
        for (int count : new int[] {5, 8, 16, 128, 255}) {
            isNoBlock(with(folderOf(4), 1, count));
            isNoBlock(with(folderOf(0), 1, count));
        }
    }

    private static void folderLength() {
        check.about("FOLDER: then so many times a TITLE and a link");
        for (int count = 0; count <= 4; count++) {
            int whole = 2 + 3 * count;
            for (int length = 2; length <= 32; length++) {
                int[] row = resized(folderOf(10), length);
                row[1] = count;
                if (length == whole) {
                    isBlock(row);
                } else {
                    isNoBlock(row);
                }
            }
        }
    }

    private static void folderTitles() {
        check.about("a TITLE (1 .. 255)");
        isBlock(Check.folder(1, 9));
        isBlock(Check.folder(255, 9));
        isBlock(Check.folder(128, 9));
        isBlock(Check.folder(1, 9, 2, 9, 3, 9, 255, 9));
        isNoBlock(Check.folder(0, 9));
        isNoBlock(Check.folder(0, 9, 1, 9));
        isNoBlock(Check.folder(0, 9, 1, 9, 2, 9, 3, 9));
    }

    private static void folderTitlesRise() {
        check.about("a TITLE, which is greater than the one before");
        for (int count = 2; count <= 4; count++) {
            for (int i = 1; i < count; i++) {
                int[] row = Check.folder(10, 9, 20, 9, 30, 9, 40, 9);
                row = resized(row, 2 + 3 * count);
                row[1] = count;
                int before = row[2 + 3 * (i - 1)];
                isBlock(with(row, 2 + 3 * i, before + 1));
                isNoBlock(with(row, 2 + 3 * i, before));
                isNoBlock(with(row, 2 + 3 * i, before - 1));
                isNoBlock(with(row, 2 + 3 * i, 0));
            }
        }
        isBlock(Check.folder(127, 9, 128, 9));
        isNoBlock(Check.folder(128, 9, 127, 9));
        isBlock(Check.folder(252, 9, 253, 9, 254, 9, 255, 9));
        isNoBlock(Check.folder(1, 9, 255, 9, 255, 9));
        // Greater than one further before is not enough.
        isNoBlock(Check.folder(10, 9, 30, 9, 20, 9));
    }

    private static void folderLinks() {
        check.about("FOLDER: links are names, 0 .. 65520");
        for (int count = 1; count <= 4; count++) {
            for (int i = 0; i < count; i++) {
                linkEdges(folderOf(count), 3 + 3 * i);
            }
        }
    }

    private static int[] shardOf(int mask, int links) {
        int[] parts = new int[links];
        for (int i = 0; i < links; i++) {
            parts[i] = 300 + i;
        }
        return Check.shard(mask, parts);
    }

    private static void shardMask() {
        check.about("SHARD: 3, a MASK 1 .. 15");
        for (int mask = 1; mask <= 15; mask++) {
            isBlock(shardOf(mask, Integer.bitCount(mask)));
        }
        isNoBlock(3);
        isNoBlock(3, 0);
        isNoBlock(shardOf(0, 1));
        for (int mask : new int[] {16, 17, 31, 32, 64, 128, 240, 255}) {
            for (int links = 0; links <= 8; links++) {
                isNoBlock(shardOf(mask, links));
            }
        }
    }

    private static void shardLinkCount() {
        check.about("SHARD: then for each of its bits that is 1, the lowest first, a link.");
        for (int mask = 1; mask <= 15; mask++) {
            int whole = 2 + 2 * Integer.bitCount(mask);
            for (int length = 2; length <= 32; length++) {
                int[] row = resized(shardOf(mask, 15), length);
                if (length == whole) {
                    isBlock(row);
                } else {
                    isNoBlock(row);
                }
            }
        }
    }

    private static void shardLinks() {
        check.about("SHARD: links are names, 0 .. 65520");
        for (int mask = 1; mask <= 15; mask++) {
            for (int i = 0; i < Integer.bitCount(mask); i++) {
                linkEdges(shardOf(mask, Integer.bitCount(mask)), 2 + 2 * i);
            }
        }
    }

    private static void lowByteFirst() {
        check.about("two bytes each, the low one first");
        BlockExchange x = new BlockExchange();
        check.put(x, 0, 1, 1, 255, 0, 254, 1);
        check.due("length", x.length(0, Check.nameOf(1, 1, 255, 0, 254, 1)), 255);
        check.due("fetch", x.fetch(0, 1, Check.nameOf(1, 1, 255, 0, 254, 1)), 1);
        check.due("link", x.message(0, 3), 510);
        check.put(x, 0, 1, 1, 0, 255, 1, 254);
        check.due("length", x.length(0, Check.nameOf(1, 1, 0, 255, 1, 254)), 65280);
        check.put(x, 0, 2, 1, 9, 240, 255);
        check.due("find", x.find(0, Check.nameOf(2, 1, 9, 240, 255), 9), 65520);
    }

    private static void refusedPutChangesNothing() {
        check.about("put: Refused: -1 if they are no block");
        int[][] rows = {
            {}, {4}, {1, 0}, {2}, {3, 0}, new int[10], Check.tree(0, 5), Check.tree(1, 65521),
            Check.folder(0, 5), Check.folder(5, 5, 5, 5), Check.folder(5, 65521), Check.shard(16, 5),
            Check.shard(1, 65521), treeOf(5), new int[32]
        };
        for (int[] row : rows) {
            Still still = Still.busy(check, x -> {
                x.clear();
                x.entry(8, 9);
                check.type(x, row);
            }, Check.nameOf(row));
            for (int store = 0; store < 3; store++) {
                int to = store;
                still.refused("put(" + store + ")", x -> x.put(to), -1);
            }
        }
    }
}
