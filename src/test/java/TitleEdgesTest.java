import java.util.Arrays;

/** The edges of folders: how folder splits titles (promise 8) and find (13). */
public final class TitleEdgesTest {
    private static final Check check = new Check("TitleEdgesTest");

    public static void main(String[] args) {
        noTitles();
        fourTitlesAreOneFolder();
        fiveTitlesAreAShard();
        aGroupOfFourIsAFolder();
        aGroupOfFiveIsAShard();
        aShardTwoLinksDown();
        sixteenTitles();
        aBranchOfEachTitle();
        aBranchWithoutTitles();
        theListBecomesEmpty();
        findInAFolder();
        findWithoutAFolder();
        findByTheBitsOfALevel();
        findCountsFromWhereItBegan();
        nothingWhereTheBitIs0();
        brokenWhenNotThere();
        brokenWhenNoFolder();
        shardsThreeAndFourLinksDown();
        theProductWrapsAround();
        titlesThatAreNone();
        check.end();
    }

    private static int code(int title) {
        return 37 * title % 256;
    }

    /** The title, 1 to 255, whose code is a given one that is not 0. */
    private static int titleOf(int code) {
        for (int title = 1; title < 256; title++) {
            if (code(title) == code) {
                return title;
            }
        }
        throw new IllegalArgumentException("no title of code " + code);
    }

    private static int[] titlesOf(int... codes) {
        int[] titles = new int[codes.length];
        for (int i = 0; i < codes.length; i++) {
            titles[i] = titleOf(codes[i]);
        }
        return titles;
    }

    /** Enters titles, each with 1000 times itself modulo 65521. */
    private static void enter(BlockExchange x, int... titles) {
        for (int title : titles) {
            check.due("entry", x.entry(title, nameFor(title)), true);
        }
    }

    private static int nameFor(int title) {
        return 1000 * title % 65521;
    }

    private static int[] folderOf(int... titles) {
        int[] sorted = titles.clone();
        Arrays.sort(sorted);
        int[] parts = new int[2 * sorted.length];
        for (int i = 0; i < sorted.length; i++) {
            parts[2 * i] = sorted[i];
            parts[2 * i + 1] = nameFor(sorted[i]);
        }
        return Check.folder(parts);
    }

    /** What folder(1) makes of the titles is these blocks, the root last, and no other. */
    private static BlockExchange becomes(int[] titles, int[]... due) {
        BlockExchange x = new BlockExchange();
        enter(x, titles);
        int root = Check.nameOf(due[due.length - 1]);
        check.due("folder of " + titles.length, x.folder(1), root);
        check.due("blocks", x.blocks(1), due.length);
        for (int[] row : due) {
            check.due("bytes", x.bytes(1, Check.nameOf(row)), row.length);
        }
        for (int title : titles) {
            check.due("find " + title, x.find(1, root, title), nameFor(title));
        }
        return x;
    }

    private static void noTitles() {
        check.about("At most 4 titles are one FOLDER. (none at all)");
        becomes(new int[0], Check.folder());
    }

    private static void fourTitlesAreOneFolder() {
        check.about("At most 4 titles are one FOLDER.");
        for (int count = 1; count <= 4; count++) {
            int[] titles = Arrays.copyOf(new int[] {255, 1, 128, 17}, count);
            becomes(titles, folderOf(titles));
        }
        // Also where all are of one branch.
        int[] titles = titlesOf(64, 128, 192, 16);
        becomes(titles, folderOf(titles));
    }

    private static void fiveTitlesAreAShard() {
        check.about("More are a SHARD, s = 0");
        int[] zero = folderOf(titlesOf(4, 8));
        int[] one = folderOf(titleOf(1));
        int[] two = folderOf(titleOf(2));
        int[] three = folderOf(titleOf(3));
        becomes(titlesOf(1, 4, 3, 2, 8), zero, one, two, three,
                Check.shard(15, Check.nameOf(zero), Check.nameOf(one), Check.nameOf(two), Check.nameOf(three)));
    }

    private static void aGroupOfFourIsAFolder() {
        check.about("the titles become, if there are any, a block in the same way (at most 4: a FOLDER)");
        for (int b = 0; b < 4; b++) {
            int other = (b + 1) % 4;
            int[] group = titlesOf(b + 4, b + 8, b + 12, b + 16);
            int[] four = folderOf(group);
            int[] rest = folderOf(titleOf(other + 4));
            int[] titles = Arrays.copyOf(group, 5);
            titles[4] = titleOf(other + 4);
            int[] low = b < other ? four : rest;
            int[] high = b < other ? rest : four;
            becomes(titles, four, rest, Check.shard((1 << b) | (1 << other), Check.nameOf(low), Check.nameOf(high)));
        }
    }

    private static void aGroupOfFiveIsAShard() {
        check.about("a block in the same way (a shard among them with s one more)");
        for (int b = 0; b < 4; b++) {
            // Of the five the lowest bits are b, the next two 0, 0, 1, 2 and 3.
            int[] titles = titlesOf(b + 64, b + 128, b + 4, b + 8, b + 12);
            int[] zero = folderOf(titlesOf(b + 64, b + 128));
            int[] one = folderOf(titleOf(b + 4));
            int[] two = folderOf(titleOf(b + 8));
            int[] three = folderOf(titleOf(b + 12));
            int[] inner = Check.shard(15, Check.nameOf(zero), Check.nameOf(one), Check.nameOf(two), Check.nameOf(three));
            becomes(titles, zero, one, two, three, inner, Check.shard(1 << b, Check.nameOf(inner)));
        }
    }

    private static void aShardTwoLinksDown() {
        check.about("a block in the same way (a shard among them with s one more)");
        for (int low = 1; low < 16; low++) {
            int[] titles = titlesOf(low + 64, low + 128, low + 16, low + 32, low + 48);
            int[] zero = folderOf(titlesOf(low + 64, low + 128));
            int[] one = folderOf(titleOf(low + 16));
            int[] two = folderOf(titleOf(low + 32));
            int[] three = folderOf(titleOf(low + 48));
            int[] inner = Check.shard(15, Check.nameOf(zero), Check.nameOf(one), Check.nameOf(two), Check.nameOf(three));
            int[] middle = Check.shard(1 << (low / 4), Check.nameOf(inner));
            becomes(titles, zero, one, two, three, inner, middle, Check.shard(1 << (low % 4), Check.nameOf(middle)));
        }
    }

    private static void sixteenTitles() {
        check.about("The LIST has at most 16 titles; a shard among them with s one more");
        // All of one branch, twice: four folders of four titles each, two links below the first shard.
        int[] titles = new int[16];
        int[][] folders = new int[4][];
        for (int b = 0; b < 4; b++) {
            int[] group = titlesOf(5 + 16 * b, 5 + 16 * b + 64, 5 + 16 * b + 128, 5 + 16 * b + 192);
            System.arraycopy(group, 0, titles, 4 * b, 4);
            folders[b] = folderOf(group);
        }
        int[] inner = Check.shard(15, Check.nameOf(folders[0]), Check.nameOf(folders[1]),
                Check.nameOf(folders[2]), Check.nameOf(folders[3]));
        int[] middle = Check.shard(2, Check.nameOf(inner));
        int[] root = Check.shard(2, Check.nameOf(middle));
        becomes(titles, folders[0], folders[1], folders[2], folders[3], inner, middle, root);
    }

    /** Each title comes with four others, so that a shard of one level must lead to it. */
    private static void aBranchOfEachTitle() {
        check.about("the titles whose bits 2s and 2s + 1 of (37 * title) modulo 256 are b");
        for (int title = 1; title < 256; title++) {
            BlockExchange x = new BlockExchange();
            enter(x, title);
            int b = code(title) % 4;
            for (int i = 1; i <= 4; i++) {
                // Titles of another branch.
                enter(x, titleOf((b + 1) % 4 + 16 * i));
            }
            int root = x.folder(0);
            check.due("mask for " + title, x.raw(0, root, 1), (1 << b) | (1 << (b + 1) % 4));
            check.due("find", x.find(0, root, title), nameFor(title));
            int at = b < (b + 1) % 4 ? 2 : 4;
            int alone = Check.nameOf(folderOf(title));
            check.due("low byte of its link", x.raw(0, root, at), alone % 256);
            check.due("high byte of its link", x.raw(0, root, at + 1), alone / 256);
        }
    }

    private static void aBranchWithoutTitles() {
        check.about("become, if there are any, a block");
        int[] one = folderOf(titlesOf(1, 5));
        int[] three = folderOf(titlesOf(3, 7, 11));
        BlockExchange x = becomes(titlesOf(1, 5, 3, 7, 11), one, three,
                Check.shard(10, Check.nameOf(one), Check.nameOf(three)));
        check.due("no empty folder", x.bytes(1, Check.nameOf(2, 0)), -1);
    }

    private static void theListBecomesEmpty() {
        check.about("folder: the name of its block, and the list becomes empty");
        for (int count = 0; count <= 16; count++) {
            BlockExchange x = new BlockExchange();
            for (int title = 1; title <= count; title++) {
                enter(x, 15 * title);
            }
            check.type(x, 8, 9);
            check.due("folder", x.folder(0) >= 0, true);
            check.due("folder again", x.folder(2), Check.nameOf(2, 0));
            check.due("the buffer is as it was", x.name(), Check.nameOf(8, 9));
            for (int title = 1; title <= 16; title++) {
                enter(x, title);
            }
            check.due("a 17th title", x.entry(17, 1), false);
        }
    }

    private static void findInAFolder() {
        check.about("in a folder it is the link at that title, or nothing");
        BlockExchange x = new BlockExchange();
        int name = check.put(x, 0, Check.folder(1, 0, 2, 65520, 254, 7, 255, 8));
        check.due("find 1", x.find(0, name, 1), 0);
        check.due("find 2", x.find(0, name, 2), 65520);
        check.due("find 3", x.find(0, name, 3), -1);
        check.due("find 253", x.find(0, name, 253), -1);
        check.due("find 254", x.find(0, name, 254), 7);
        check.due("find 255", x.find(0, name, 255), 8);
        int none = check.put(x, 0, Check.folder());
        for (int title = 1; title <= 255; title++) {
            check.due("find " + title, x.find(0, none, title), -1);
        }
    }

    private static void findWithoutAFolder() {
        check.about("find: -1 if there is no folder or shard of that name");
        BlockExchange x = new BlockExchange();
        int leaf = check.put(x, 0, Check.leaf(1, 1, 9, 9));
        int tree = check.put(x, 0, Check.tree(1, leaf));
        int folder = check.put(x, 0, Check.folder(1, leaf));
        check.due("a folder", x.find(0, folder, 1), leaf);
        check.due("a leaf", x.find(0, leaf, 1), -1);
        check.due("a tree", x.find(0, tree, 1), -1);
        check.due("elsewhere", x.find(1, folder, 1), -1);
        for (int store : new int[] {-1, 3, Integer.MIN_VALUE, Integer.MAX_VALUE}) {
            check.due("no store", x.find(store, folder, 1), -1);
        }
        for (int name : new int[] {-1, 0, 65520, 65521, folder + 65521, folder - 65521}) {
            check.due("no block", x.find(0, name, 1), -1);
        }
    }

    /** A chain of shards with all bits, of which one link alone, at each level, leads on to the folder. */
    private static void findByTheBitsOfALevel() {
        check.about("s links down from where one began (s = 0, 1, 2, 3), let b be bits 2s and 2s + 1");
        for (int levels = 1; levels <= 4; levels++) {
            for (int code = 1; code < 256; code += 5) {
                int title = titleOf(code);
                BlockExchange x = new BlockExchange();
                int name = check.put(x, 0, Check.folder(title, 4711));
                for (int s = levels - 1; s >= 0; s--) {
                    int[] links = {1, 2, 3, 4};
                    links[code >> (2 * s) & 3] = name;
                    name = check.put(x, 0, Check.shard(15, links));
                }
                check.due("find through " + levels, x.find(0, name, title), 4711);
                for (int bit = 0; bit < 8; bit++) {
                    int other = code ^ (1 << bit);
                    if (other != 0) {
                        check.due("find of bit " + bit, x.find(0, name, titleOf(other)), bit < 2 * levels ? -2 : -1);
                    }
                }
            }
        }
    }

    private static void findCountsFromWhereItBegan() {
        check.about("s links down from where one began");
        BlockExchange x = new BlockExchange();
        int title = titleOf(1 + 2 * 4);
        int folder = check.put(x, 0, Check.folder(title, 4711));
        int inner = check.put(x, 0, Check.shard(4, folder));
        int root = check.put(x, 0, Check.shard(2, inner));
        check.due("from the root", x.find(0, root, title), 4711);
        check.due("from one link below", x.find(0, inner, title), -1);
        check.due("from the folder", x.find(0, folder, title), 4711);
        check.due("a title of branch 2, from one link below", x.find(0, inner, titleOf(2)), -1);
    }

    private static void nothingWhereTheBitIs0() {
        check.about("if bit b of the mask is 0, there is nothing, else one goes on with the link of that bit");
        for (int mask = 1; mask < 16; mask++) {
            BlockExchange x = new BlockExchange();
            int[] folders = new int[4];
            for (int b = 0; b < 4; b++) {
                folders[b] = check.put(x, 0, Check.folder(titleOf(b + 4), 100 + b));
            }
            int[] links = new int[Integer.bitCount(mask)];
            int at = 0;
            for (int b = 0; b < 4; b++) {
                if ((mask >> b) % 2 == 1) {
                    links[at++] = folders[b];
                }
            }
            int shard = check.put(x, 0, Check.shard(mask, links));
            for (int b = 0; b < 4; b++) {
                boolean there = (mask >> b) % 2 == 1;
                check.due("mask " + mask + ", b " + b, x.find(0, shard, titleOf(b + 4)), there ? 100 + b : -1);
                check.due("no title", x.find(0, shard, titleOf(b + 8)), -1);
            }
        }
    }

    private static void brokenWhenNotThere() {
        check.about("This is BROKEN if that block is not there");
        BlockExchange x = new BlockExchange();
        int title = titleOf(4);
        int[] row = Check.folder(title, 5);
        int shard = check.put(x, 0, Check.shard(1, Check.nameOf(row)));
        check.put(x, 1, row);
        check.due("find", x.find(0, shard, title), -2);
        check.due("find another branch", x.find(0, shard, titleOf(1)), -1);
        check.put(x, 0, row);
        check.due("find when it is there", x.find(0, shard, title), 5);
        check.due("link 0", x.find(0, check.put(x, 0, Check.shard(1, 0)), title), -2);
        check.due("link 65520", x.find(0, check.put(x, 0, Check.shard(1, 65520)), title), -2);
        int above = check.put(x, 0, Check.shard(1, Check.nameOf(Check.shard(2, 9))));
        check.put(x, 0, Check.shard(2, 9));
        check.due("two links down", x.find(0, above, title), -2);
    }

    private static void brokenWhenNoFolder() {
        check.about("This is BROKEN if that block is neither folder nor shard");
        BlockExchange x = new BlockExchange();
        int empty = check.put(x, 0, Check.leaf());
        int leaf = check.put(x, 0, Check.leaf(1, 1, 1));
        int tree = check.put(x, 0, Check.tree(1, leaf));
        int folder = check.put(x, 0, Check.folder(titleOf(3), 9));
        int shard = check.put(x, 0, Check.shard(15, empty, leaf, tree, folder));
        check.due("an empty leaf", x.find(0, shard, titleOf(4)), -2);
        check.due("a leaf", x.find(0, shard, titleOf(1)), -2);
        check.due("a tree", x.find(0, shard, titleOf(2)), -2);
        check.due("a folder", x.find(0, shard, titleOf(3)), 9);
    }

    private static void shardsThreeAndFourLinksDown() {
        check.about("This is BROKEN if that block is a shard 4 links down");
        int title = titleOf(1 + 2 * 4 + 3 * 16);
        int[][] ends = {Check.folder(title, 4711), Check.folder(), Check.shard(15, 1, 2, 3, 4), Check.shard(8, 1)};
        int[] due = {4711, -1, -2, -2};
        for (int i = 0; i < ends.length; i++) {
            BlockExchange x = new BlockExchange();
            int name = check.put(x, 0, ends[i]);
            name = check.put(x, 0, Check.shard(1, name));
            int third = name;
            name = check.put(x, 0, Check.shard(8, name));
            name = check.put(x, 0, Check.shard(4, name));
            name = check.put(x, 0, Check.shard(2, name));
            check.due("four links down", x.find(0, name, title), due[i]);
            check.due("a shard three links down without the bit", x.find(0, name, titleOf(code(title) + 64)), -1);
            check.due("from the one three links down", x.find(0, third, titleOf(code(title))), -1);
        }
        // A shard below the fourth link is not reached, and from further down it is within reach.
        BlockExchange y = new BlockExchange();
        int end = check.put(y, 0, Check.folder(255, 5));
        int[] all = new int[6];
        int name = end;
        for (int i = 0; i < 6; i++) {
            name = check.put(y, 0, Check.shard(15, name, name, name, name));
            all[i] = name;
        }
        for (int i = 0; i < 6; i++) {
            check.due("find through " + (i + 1) + " shards", y.find(0, all[i], 255), i < 4 ? 5 : -2);
            check.due("a title that is not there", y.find(0, all[i], 254), i < 4 ? -1 : -2);
        }
    }

    private static void theProductWrapsAround() {
        check.about("(37 * title) modulo 256");
        // 37 * 6 is 222, with lowest bits 2; 37 * 7 is 259, and 3 modulo 256; 37 * 255 is 9435, and 219.
        BlockExchange x = new BlockExchange();
        int two = check.put(x, 0, Check.folder(6, 22));
        int three = check.put(x, 0, Check.folder(7, 33, 255, 44));
        int shard = check.put(x, 0, Check.shard(12, two, three));
        check.due("find 6", x.find(0, shard, 6), 22);
        check.due("find 7", x.find(0, shard, 7), 33);
        check.due("find 255", x.find(0, shard, 255), 44);
        // The bits 6 and 7, three links down: of 6 they are 3, of 7 they are 0.
        int name = check.put(x, 0, Check.shard(9, three, two));
        for (int s = 2; s >= 0; s--) {
            name = check.put(x, 0, Check.shard(15, name, name, name, name));
        }
        check.due("find 6", x.find(0, name, 6), 22);
        check.due("find 7", x.find(0, name, 7), 33);
    }

    /** The document refuses no title here: what no folder can have is nothing, or its way is broken. */
    private static void titlesThatAreNone() {
        check.about("find: or nothing at the title; -2 if this is broken");
        BlockExchange x = new BlockExchange();
        int folder = check.put(x, 0, Check.folder(1, 5, 255, 6));
        int shard = check.put(x, 0, Check.shard(15, folder, folder, folder, folder));
        int broken = check.put(x, 0, Check.shard(1, 9));
        for (int title : new int[] {0, 256, 257, -1, -255, 511, Integer.MIN_VALUE, Integer.MAX_VALUE}) {
            check.due("find " + title, x.find(0, folder, title), -1);
            check.due("find " + title, x.find(0, shard, title), -1);
        }
        check.due("a way that is broken", x.find(0, broken, 0), -2);
        check.due("a way that is broken", x.find(0, broken, 256), -2);
        check.due("a way that is not there", x.find(0, broken, 257), -1);
    }
}
