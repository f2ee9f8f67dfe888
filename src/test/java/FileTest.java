/** Promises 11 (length) and 12 (read). */
public final class FileTest {
    private static final Check check = new Check("FileTest");

    public static void main(String[] args) {
        lengths();
        leaves();
        trees();
        broken();
        tenLinks();
        ownLink();
        check.end();
    }

    private static void lengths() {
        BlockExchange x = new BlockExchange();
        int none = check.put(x, 0, Check.leaf());
        int full = check.put(x, 0, Check.leaf(1, 2, 3, 4, 5, 6, 7, 8));
        int tree = check.put(x, 0, Check.tree(65535, none, 65535, none, 65535, none, 65535, none));
        int small = check.put(x, 0, Check.tree(258, 9));
        int folder = check.put(x, 0, Check.folder(1, none));
        int shard = check.put(x, 0, Check.shard(1, none));
        check.due("length of an empty leaf", x.length(0, none), 0);
        check.due("length of a full leaf", x.length(0, full), 8);
        check.due("length of the greatest tree", x.length(0, tree), 262140);
        check.due("length of a tree", x.length(0, small), 258);
        check.due("length of a folder", x.length(0, folder), -1);
        check.due("length of a shard", x.length(0, shard), -1);
        check.due("length elsewhere", x.length(1, full), -1);
        check.due("length, no store", x.length(3, full), -1);
        check.due("length, no store", x.length(-1, full), -1);
        check.due("length, no name", x.length(0, 65521), -1);
    }

    private static void leaves() {
        BlockExchange x = new BlockExchange();
        int leaf = check.put(x, 1, Check.leaf(9, 8, 255));
        int none = check.put(x, 1, Check.leaf());
        int folder = check.put(x, 1, Check.folder());
        check.due("read 0", x.read(1, leaf, 0), 9);
        check.due("read 2", x.read(1, leaf, 2), 255);
        check.due("read 3", x.read(1, leaf, 3), -1);
        check.due("read -1", x.read(1, leaf, -1), -1);
        check.due("read least", x.read(1, leaf, Integer.MIN_VALUE), -1);
        check.due("read most", x.read(1, leaf, Integer.MAX_VALUE), -1);
        check.due("read of an empty leaf", x.read(1, none, 0), -1);
        check.due("read of a folder", x.read(1, folder, 0), -1);
        check.due("read elsewhere", x.read(0, leaf, 0), -1);
        check.due("read, no store", x.read(3, leaf, 0), -1);
        check.due("read, no name", x.read(1, 1, 0), -1);
    }

    private static void trees() {
        BlockExchange x = new BlockExchange();
        int a = check.put(x, 0, Check.leaf(10));
        int b = check.put(x, 0, Check.leaf(20, 21));
        int c = check.put(x, 0, Check.leaf(30, 31, 32));
        int inner = check.put(x, 0, Check.tree(2, b, 1, a));
        int root = check.put(x, 0, Check.tree(1, a, 3, inner, 3, c, 2, b));
        int[] whole = {10, 20, 21, 10, 30, 31, 32, 20, 21};
        for (int p = 0; p < whole.length; p++) {
            check.due("read " + p, x.read(0, root, p), whole[p]);
        }
        check.due("read behind", x.read(0, root, 9), -1);
        check.due("read before", x.read(0, root, -1), -1);
    }

    private static void broken() {
        BlockExchange x = new BlockExchange();
        int leaf = check.put(x, 0, Check.leaf(10, 11));
        int folder = check.put(x, 0, Check.folder());
        int shard = check.put(x, 0, Check.shard(1, leaf));
        int root = check.put(x, 0, Check.tree(2, leaf, 2, 12345, 1, leaf, 3, leaf));
        check.due("read what is whole", x.read(0, root, 1), 11);
        check.due("read what is not there", x.read(0, root, 2), -2);
        check.due("read a link of too small a size", x.read(0, root, 4), -2);
        check.due("read a link of too great a size", x.read(0, root, 5), -2);
        check.due("read behind", x.read(0, root, 8), -1);
        int other = check.put(x, 0, Check.tree(1, folder, 1, shard, 2, leaf));
        check.due("read a folder", x.read(0, other, 0), -2);
        check.due("read a shard", x.read(0, other, 1), -2);
        check.due("read behind them", x.read(0, other, 3), 11);
        int inner = check.put(x, 0, Check.tree(1, 5, 2, leaf));
        int outer = check.put(x, 0, Check.tree(3, inner, 4, inner));
        check.due("read through a tree", x.read(0, outer, 2), 11);
        check.due("read what is not there, further down", x.read(0, outer, 0), -2);
        check.due("read a tree of another length", x.read(0, outer, 5), -2);
    }

    private static void tenLinks() {
        BlockExchange x = new BlockExchange();
        int name = check.put(x, 0, Check.leaf(42));
        for (int links = 1; links <= 12; links++) {
            name = check.put(x, 0, Check.tree(1, name));
            check.due("read through " + links + " links", x.read(0, name, 0), links <= 10 ? 42 : -2);
            check.due("length", x.length(0, name), 1);
        }
    }

    /** A tree that links itself: reading it ends. */
    private static void ownLink() {
        for (int size = 1; size < 65536; size++) {
            for (int link = size % 7; link < 65521; link += 7) {
                int[] row = Check.tree(size, link);
                if (Check.nameOf(row) == link) {
                    BlockExchange x = new BlockExchange();
                    int name = check.put(x, 0, row);
                    check.due("read of a tree that links itself", x.read(0, name, 0), -2);
                    return;
                }
            }
        }
        check.due("a tree that links itself was found", 0, 1);
    }
}
