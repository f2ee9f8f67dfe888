/** Promises 7 (entry), 8 (folder) and 13 (find). */
public final class FolderTest {
    private static final Check check = new Check("FolderTest");

    public static void main(String[] args) {
        entries();
        smallFolders();
        shards();
        deepShards();
        refusals();
        finding();
        findingBroken();
        findingDeep();
        nameZero();
        check.end();
    }

    /** The title, 1 .. 255, whose (37 * title) modulo 256 is a code. */
    private static int titleOf(int code) {
        for (int title = 1; title < 256; title++) {
            if (37 * title % 256 == code) {
                return title;
            }
        }
        throw new IllegalArgumentException("no title of that code");
    }

    private static void entries() {
        BlockExchange x = new BlockExchange();
        check.due("entry(0, 1)", x.entry(0, 1), false);
        check.due("entry(256, 1)", x.entry(256, 1), false);
        check.due("entry(-1, 1)", x.entry(-1, 1), false);
        check.due("entry(1, -1)", x.entry(1, -1), false);
        check.due("entry(1, 65521)", x.entry(1, 65521), false);
        check.due("entry(1, most)", x.entry(1, Integer.MAX_VALUE), false);
        check.due("entry(255, 65520)", x.entry(255, 65520), true);
        check.due("entry(1, 0)", x.entry(1, 0), true);
        check.due("folder", x.folder(0), Check.nameOf(Check.folder(1, 0, 255, 65520)));
        for (int i = 0; i < 16; i++) {
            check.due("entry", x.entry(200 - 3 * i, i), true);
        }
        check.due("a 17th title", x.entry(1, 1), false);
        check.due("a title of the 16", x.entry(155, 77), true);
        check.due("the first title of the 16", x.entry(200, 78), true);
        int name = x.folder(0);
        check.due("find", x.find(0, name, 155), 77);
        check.due("find", x.find(0, name, 200), 78);
        check.due("find", x.find(0, name, 158), 14);
        check.due("find a refused title", x.find(0, name, 1), -1);
        check.due("entry after folder", x.entry(1, 1), true);
    }

    private static void smallFolders() {
        BlockExchange x = new BlockExchange();
        check.type(x, 3, 4);
        check.due("folder of nothing", x.folder(0), Check.nameOf(2, 0));
        x.entry(30, 300);
        x.entry(10, 100);
        x.entry(40, 400);
        x.entry(20, 999);
        x.entry(20, 200);
        int[] row = Check.folder(10, 100, 20, 200, 30, 300, 40, 400);
        check.due("folder of four", x.folder(0), Check.nameOf(row));
        check.hasBlock(x, 0, row);
        check.due("blocks", x.blocks(0), 2);
        check.due("the list is empty", x.folder(1), Check.nameOf(2, 0));
        check.due("the buffer is as it was", x.name(), Check.nameOf(3, 4));
        x.entry(1, 5);
        check.due("folder of one", x.folder(1), Check.nameOf(2, 1, 1, 5, 0));
    }

    private static void shards() {
        BlockExchange x = new BlockExchange();
        int a = titleOf(4);
        int b = titleOf(8);
        int c = titleOf(2);
        int d = titleOf(6);
        int e = titleOf(3);
        x.entry(e, 5);
        x.entry(a, 1);
        x.entry(b, 2);
        x.entry(c, 3);
        x.entry(d, 4);
        int[] zero = a < b ? Check.folder(a, 1, b, 2) : Check.folder(b, 2, a, 1);
        int[] two = c < d ? Check.folder(c, 3, d, 4) : Check.folder(d, 4, c, 3);
        int[] three = Check.folder(e, 5);
        int[] root = Check.shard(13, Check.nameOf(zero), Check.nameOf(two), Check.nameOf(three));
        check.due("folder of five", x.folder(2), Check.nameOf(root));
        check.hasBlock(x, 2, zero);
        check.hasBlock(x, 2, two);
        check.hasBlock(x, 2, three);
        check.hasBlock(x, 2, root);
        check.due("blocks", x.blocks(2), 4);
        check.due("the list is empty", x.folder(2), Check.nameOf(2, 0));
    }

    private static void deepShards() {
        BlockExchange x = new BlockExchange();
        // Bits 0 to 3 are 0110 in all of them, so that two shards have one link each.
        int[] codes = {6, 6 + 16, 6 + 32, 6 + 48, 6 + 64};
        for (int i = 0; i < codes.length; i++) {
            x.entry(titleOf(codes[i]), 100 + i);
        }
        int first = titleOf(6);
        int fifth = titleOf(70);
        int[] zero = first < fifth ? Check.folder(first, 100, fifth, 104) : Check.folder(fifth, 104, first, 100);
        int[] one = Check.folder(titleOf(22), 101);
        int[] two = Check.folder(titleOf(38), 102);
        int[] three = Check.folder(titleOf(54), 103);
        int[] third = Check.shard(15, Check.nameOf(zero), Check.nameOf(one), Check.nameOf(two), Check.nameOf(three));
        int[] second = Check.shard(2, Check.nameOf(third));
        int[] root = Check.shard(4, Check.nameOf(second));
        int name = x.folder(0);
        check.due("folder of five under two shards", name, Check.nameOf(root));
        check.hasBlock(x, 0, second);
        check.hasBlock(x, 0, third);
        check.hasBlock(x, 0, zero);
        check.hasBlock(x, 0, three);
        check.due("blocks", x.blocks(0), 7);
        for (int i = 0; i < codes.length; i++) {
            check.due("find", x.find(0, name, titleOf(codes[i])), 100 + i);
        }
        check.due("find a title whose branch is not there", x.find(0, name, titleOf(5)), -1);
        check.due("find a title that is not there", x.find(0, name, titleOf(6 + 128)), -1);
    }

    private static void refusals() {
        BlockExchange x = new BlockExchange();
        x.entry(7, 0);
        check.due("folder(-1)", x.folder(-1), -1);
        check.due("folder(3)", x.folder(3), -1);
        int[] row = Check.folder(7, 0);
        check.due("the list is as it was", x.folder(0), Check.nameOf(row));
        // Behind the title, 249 and 34 more in the link's two bytes keep the name.
        x.entry(7, 249 + 256 * 34);
        check.due("folder at a collision", x.folder(0), -2);
        check.due("blocks at a collision", x.blocks(0), 1);
        check.due("the list is as it was", x.folder(1), Check.nameOf(row));
        check.due("raw", x.raw(1, Check.nameOf(row), 3), 249);
        x.clear();
        check.fill(x, 2, 9, 63);
        for (int i = 1; i <= 5; i++) {
            x.entry(i, i);
        }
        check.due("folder without room", x.folder(2), -3);
        check.due("blocks without room", x.blocks(2), 63);
        int name = x.folder(0);
        check.due("find in what came in elsewhere", x.find(0, name, 5), 5);
        x.entry(1, 1);
        check.due("folder with room for one", x.folder(2), Check.nameOf(Check.folder(1, 1)));
    }

    private static void finding() {
        BlockExchange x = new BlockExchange();
        int leaf = check.put(x, 0, Check.leaf(2, 0));
        int tree = check.put(x, 0, Check.tree(2, leaf));
        int folder = check.put(x, 0, Check.folder(1, 500, 2, 65520, 200, 0));
        check.due("find first", x.find(0, folder, 1), 500);
        check.due("find second", x.find(0, folder, 2), 65520);
        check.due("find last", x.find(0, folder, 200), 0);
        check.due("find none", x.find(0, folder, 3), -1);
        check.due("find 0", x.find(0, folder, 0), -1);
        check.due("find -1", x.find(0, folder, -1), -1);
        check.due("find 256 + 1", x.find(0, folder, 257), -1);
        check.due("find in a leaf", x.find(0, leaf, 1), -1);
        check.due("find in a tree", x.find(0, tree, 1), -1);
        check.due("find elsewhere", x.find(1, folder, 1), -1);
        check.due("find, no store", x.find(3, folder, 1), -1);
        check.due("find, no store", x.find(-1, folder, 1), -1);
        check.due("find, no name", x.find(0, folder + 1, 1), -1);
    }

    private static void findingBroken() {
        BlockExchange x = new BlockExchange();
        int leaf = check.put(x, 0, Check.leaf(5));
        int tree = check.put(x, 0, Check.tree(1, leaf));
        int folder = check.put(x, 0, Check.folder(titleOf(3), 77));
        int shard = check.put(x, 0, Check.shard(15, 12345, leaf, tree, folder));
        check.due("find behind a block that is not there", x.find(0, shard, titleOf(4)), -2);
        check.due("find behind a leaf", x.find(0, shard, titleOf(1)), -2);
        check.due("find behind a tree", x.find(0, shard, titleOf(2)), -2);
        check.due("find behind a folder", x.find(0, shard, titleOf(3)), 77);
        check.due("find behind a folder, not there", x.find(0, shard, titleOf(7)), -1);
        int zero = check.put(x, 0, Check.shard(1, 0));
        check.due("find behind the name 0", x.find(0, zero, titleOf(4)), -2);
        int narrow = check.put(x, 0, Check.shard(8, folder));
        check.due("find, bit 0", x.find(0, narrow, titleOf(4)), -1);
        check.due("find, bit 3", x.find(0, narrow, titleOf(3)), 77);
    }

    private static void nameZero() {
        for (int code = 0; code < 255 * 65521; code++) {
            int title = 1 + code / 65521;
            int link = code % 65521;
            if (Check.nameOf(Check.folder(title, link)) == 0) {
                BlockExchange x = new BlockExchange();
                check.due("entry", x.entry(title, link), true);
                check.due("folder", x.folder(0), 0);
                check.due("the list is empty", x.folder(0), Check.nameOf(2, 0));
                check.due("find", x.find(0, 0, title), link);
                return;
            }
        }
        check.due("a folder of name 0 was found", 0, 1);
    }

    private static void findingDeep() {
        BlockExchange x = new BlockExchange();
        int title = titleOf(2 + 4 + 48);
        int folder = check.put(x, 0, Check.folder(title, 4711));
        int three = check.put(x, 0, Check.shard(1, folder));
        int two = check.put(x, 0, Check.shard(8, three));
        int one = check.put(x, 0, Check.shard(2, two));
        int zero = check.put(x, 0, Check.shard(4, one));
        check.due("find four links down", x.find(0, zero, title), 4711);
        check.due("find from one further down", x.find(0, one, title), -1);
        int shard = check.put(x, 0, Check.shard(15, folder, folder, folder, folder));
        three = check.put(x, 0, Check.shard(1, shard));
        two = check.put(x, 0, Check.shard(8, three));
        one = check.put(x, 0, Check.shard(2, two));
        zero = check.put(x, 0, Check.shard(4, one));
        check.due("find, a shard four links down", x.find(0, zero, title), -2);
        check.due("find, a branch that ends before", x.find(0, zero, titleOf(2 + 4)), -1);
    }
}
