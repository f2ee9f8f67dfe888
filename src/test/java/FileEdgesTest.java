import java.util.ArrayList;
import java.util.List;

/** The edges of files: how add cuts and joins (promise 6), length (11) and read (12). */
public final class FileEdgesTest {
    private static final Check check = new Check("FileEdgesTest");

    public static void main(String[] args) {
        chunkIs0To8();
        fanIs2To4();
        chunkBytesEach();
        noBytesAtAll();
        cutBehindThe8thByte();
        cutByContent();
        noCutBehindAFirstByte();
        noCutBehindTheLastByte();
        oneBlockBecomesNoTree();
        fanBlocksBecomeOneTree();
        theLastTreeHasWhatIsLeft();
        levels();
        lengthOfALeaf();
        lengthOfATree();
        lengthOfOthers();
        readFromALeaf();
        readFromATree();
        readAtTheGreatestSizes();
        readWithoutAFile();
        brokenWhenNotThere();
        brokenWhenNoFile();
        brokenWhenOfAnotherLength();
        brokenAfterTenLinks();
        brokenOnlyOnTheWay();
        check.end();
    }

    /** A leaf for each piece, and all blocks in the order in which they are made, the root last. */
    private static List<int[]> file(int fan, int[]... pieces) {
        List<int[]> all = new ArrayList<>();
        List<int[]> level = new ArrayList<>();
        for (int[] piece : pieces) {
            all.add(Check.leaf(piece));
            level.add(new int[] {piece.length, Check.nameOf(Check.leaf(piece))});
        }
        while (level.size() > 1) {
            List<int[]> next = new ArrayList<>();
            for (int from = 0; from < level.size(); from += fan) {
                int count = Math.min(fan, level.size() - from);
                int[] parts = new int[2 * count];
                int length = 0;
                for (int i = 0; i < count; i++) {
                    parts[2 * i] = level.get(from + i)[0];
                    parts[2 * i + 1] = level.get(from + i)[1];
                    length += parts[2 * i];
                }
                all.add(Check.tree(parts));
                next.add(new int[] {length, Check.nameOf(Check.tree(parts))});
            }
            level = next;
        }
        return all;
    }

    /** Adds the pieces, typed one behind the other, and looks for each block that is due. */
    private static void isCut(int chunk, int fan, int[]... pieces) {
        BlockExchange x = new BlockExchange();
        int length = 0;
        for (int[] piece : pieces) {
            check.type(x, piece);
            length += piece.length;
        }
        List<int[]> due = file(fan, pieces);
        int root = Check.nameOf(due.get(due.size() - 1));
        check.due("add(1, " + chunk + ", " + fan + ") of " + pieces.length + " pieces", x.add(1, chunk, fan), root);
        check.due("name after add", x.name(), 40503);
        check.due("length", x.length(1, root), length);
        for (int[] row : due) {
            check.due("bytes", x.bytes(1, Check.nameOf(row)), row.length);
        }
        int p = 0;
        for (int[] piece : pieces) {
            for (int b : piece) {
                check.due("read " + p, x.read(1, root, p++), b);
            }
        }
        check.due("read behind", x.read(1, root, p), -1);
        check.due("deep pin of the root", x.pin(1, root, true, true), true);
        check.due("nothing else has come in", x.collect(1), 0);
    }

    /** So many bytes from a first one on. */
    private static int[] run(int first, int length) {
        int[] row = new int[length];
        for (int i = 0; i < length; i++) {
            row[i] = first + i;
        }
        return row;
    }

    private static void chunkIs0To8() {
        check.about("add: -1 if chunk is not 0 .. 8");
        for (int chunk = 0; chunk <= 8; chunk++) {
            BlockExchange x = new BlockExchange();
            check.type(x, 1);
            check.due("add(0, " + chunk + ", 2)", x.add(0, chunk, 2), Check.nameOf(0, 1));
        }
        Still still = Still.busy(check);
        for (int chunk : new int[] {-1, 9, 16, 256, Integer.MIN_VALUE, Integer.MAX_VALUE}) {
            for (int fan = 2; fan <= 4; fan++) {
                int links = fan;
                still.refused("add(2, " + chunk + ", " + fan + ")", x -> x.add(2, chunk, links), -1);
            }
        }
        Still empty = new Still(check, x -> { }, Check.nameOf(0));
        empty.refused("add(0, 9, 2) of no bytes", x -> x.add(0, 9, 2), -1);
        empty.refused("add(0, -1, 2) of no bytes", x -> x.add(0, -1, 2), -1);
    }

    private static void fanIs2To4() {
        check.about("add: -1 if fan is not 2 .. 4");
        for (int fan = 2; fan <= 4; fan++) {
            isCut(2, fan, run(1, 2), run(3, 2), run(5, 2), run(7, 2), run(9, 2));
        }
        Still still = Still.busy(check);
        for (int fan : new int[] {1, 5, 0, -1, -2, 8, Integer.MIN_VALUE, Integer.MAX_VALUE}) {
            for (int chunk = 0; chunk <= 8; chunk += 4) {
                int bytes = chunk;
                still.refused("add(2, " + chunk + ", " + fan + ")", x -> x.add(2, bytes, fan), -1);
            }
        }
        Still empty = new Still(check, x -> { }, Check.nameOf(0));
        empty.refused("add(0, 8, 1) of no bytes", x -> x.add(0, 8, 1), -1);
        empty.refused("add(0, 8, 5) of no bytes", x -> x.add(0, 8, 5), -1);
    }

    private static void chunkBytesEach() {
        check.about("add: chunk bytes each, the last one what is left");
        for (int chunk = 1; chunk <= 8; chunk++) {
            for (int length = 1; length <= 32; length++) {
                int pieces = (length + chunk - 1) / chunk;
                int[][] cut = new int[pieces][];
                for (int i = 0; i < pieces; i++) {
                    cut[i] = run(100 + i * chunk, Math.min(chunk, length - i * chunk));
                }
                isCut(chunk, 2 + length % 3, cut);
            }
        }
        // Content ends no piece if chunk says how long it is.
        isCut(3, 2, new int[] {0, 0, 0}, new int[] {5, 0, 0});
        isCut(8, 2, new int[] {0, 0, 0, 0, 0, 0, 0, 0});
    }

    private static void noBytesAtAll() {
        check.about("no bytes at all: one leaf without content");
        for (int chunk = 0; chunk <= 8; chunk++) {
            for (int fan = 2; fan <= 4; fan++) {
                isCut(chunk, fan, new int[0]);
            }
        }
        isCut(0, 2, new int[] {0});
        isCut(1, 2, new int[] {0});
    }

    /** Each byte is one more than a multiple of 5, so that none ends a piece: 1 + 3 * 1 is not divisible. */
    private static int[] uncut(int length) {
        int[] row = new int[length];
        for (int i = 0; i < length; i++) {
            row[i] = 1 + 5 * i;
        }
        return row;
    }

    private static void cutBehindThe8thByte() {
        check.about("add: if chunk is 0, behind the 8th byte of a piece");
        for (int length = 1; length <= 8; length++) {
            isCut(0, 2, uncut(length));
        }
        isCut(0, 2, uncut(8), uncut(1));
        isCut(0, 2, uncut(8), uncut(8));
        isCut(0, 2, uncut(8), uncut(8), uncut(1));
        isCut(0, 4, uncut(8), uncut(8), uncut(8), uncut(8));
        // The count begins anew behind a piece that content has ended.
        isCut(0, 2, new int[] {0, 0}, uncut(8), uncut(2));
    }

    private static void cutByContent() {
        check.about("behind a byte that, added to three times the byte before it, is divisible by 5");
        for (int first = 0; first < 256; first += 5) {
            for (int second = first % 7; second < 256; second++) {
                if ((second + 3 * first) % 5 == 0) {
                    isCut(0, 2, new int[] {first, second}, new int[] {7});
                } else {
                    // 7 or 8 goes on with the piece.
                    int third = (7 + 3 * second) % 5 == 0 ? 8 : 7;
                    isCut(0, 2, new int[] {first, second, third});
                }
            }
        }
        isCut(0, 2, new int[] {0, 0}, new int[] {0, 0}, new int[] {0});
        isCut(0, 2, new int[] {255, 255}, new int[] {255, 255});
        // The third to the eighth byte end a piece too.
        for (int length = 3; length <= 8; length++) {
            int[] row = uncut(length);
            row[length - 1] = 2;
            isCut(0, 3, row, new int[] {7});
        }
    }

    private static void noCutBehindAFirstByte() {
        check.about("behind a byte, at least the second one of the piece");
        isCut(0, 2, new int[] {0});
        // 2 ends the piece 1 2, and 4 would be divisible with 2 before it, but is a first byte.
        isCut(0, 2, new int[] {1, 2}, new int[] {4});
        isCut(0, 2, new int[] {1, 2}, new int[] {4, 1});
        isCut(0, 2, new int[] {1, 2}, new int[] {4, 3}, new int[] {1});
        // So it is behind a piece of eight bytes.
        isCut(0, 2, uncut(8), new int[] {2, 1, 1});
    }

    private static void noCutBehindTheLastByte() {
        check.about("the last one what is left");
        isCut(0, 2, new int[] {1, 2});
        isCut(0, 2, uncut(8));
        isCut(4, 2, run(1, 4), run(5, 4));
        isCut(8, 2, run(1, 8), run(9, 8), run(17, 8), run(25, 8));
        isCut(1, 2, run(1, 1));
    }

    private static void oneBlockBecomesNoTree() {
        check.about("While there is more than one block");
        for (int fan = 2; fan <= 4; fan++) {
            isCut(8, fan, run(1, 8));
            isCut(4, fan, run(1, 4), run(5, 1));
        }
    }

    private static int[][] leaves(int count) {
        int[][] pieces = new int[count][];
        for (int i = 0; i < count; i++) {
            pieces[i] = run(50 + i, 1);
        }
        return pieces;
    }

    private static void fanBlocksBecomeOneTree() {
        check.about("so many of them as fan says, from the first one on, become the links of a tree, with their lengths");
        for (int fan = 2; fan <= 4; fan++) {
            isCut(1, fan, leaves(fan));
            check.due("blocks that are due", file(fan, leaves(fan)).size(), fan + 1);
            isCut(1, fan, leaves(fan - 1));
        }
    }

    private static void theLastTreeHasWhatIsLeft() {
        check.about("the last tree with what is left");
        for (int fan = 2; fan <= 4; fan++) {
            isCut(1, fan, leaves(fan + 1));
            List<int[]> due = file(fan, leaves(fan + 1));
            check.due("blocks that are due", due.size(), fan + 1 + 2 + 1);
            check.due("links of the last tree", due.get(fan + 2)[1], 1);
            isCut(1, fan, leaves(2 * fan));
            isCut(1, fan, leaves(2 * fan + 1));
        }
    }

    private static void levels() {
        check.about("While there is more than one block");
        for (int fan = 2; fan <= 4; fan++) {
            for (int count = 1; count <= 32; count++) {
                isCut(1, fan, leaves(count));
            }
        }
        check.due("fan 2", file(2, leaves(32)).size(), 63);
        check.due("fan 3", file(3, leaves(32)).size(), 50);
        check.due("fan 4", file(4, leaves(32)).size(), 43);
    }

    private static void lengthOfALeaf() {
        check.about("The LENGTH of a leaf is the number of its content's bytes");
        BlockExchange x = new BlockExchange();
        for (int length = 0; length <= 8; length++) {
            check.due("length", x.length(0, check.put(x, 0, new int[1 + length])), length);
        }
    }

    private static void lengthOfATree() {
        check.about("that of a tree the sum of its sizes");
        BlockExchange x = new BlockExchange();
        check.due("the least", x.length(0, check.put(x, 0, Check.tree(1, 9))), 1);
        check.due("one size", x.length(0, check.put(x, 0, Check.tree(65535, 9))), 65535);
        check.due("beyond two bytes", x.length(0, check.put(x, 0, Check.tree(65535, 9, 1, 9))), 65536);
        check.due("the greatest", x.length(0, check.put(x, 0, Check.tree(65535, 9, 65535, 9, 65535, 9, 65535, 9))), 262140);
        check.due("four", x.length(0, check.put(x, 0, Check.tree(1, 9, 256, 9, 2, 9, 512, 9))), 771);
    }

    private static void lengthOfOthers() {
        check.about("length: -1 if it is not there, or is neither");
        BlockExchange x = new BlockExchange();
        int leaf = check.put(x, 0, 0, 9);
        check.due("a folder", x.length(0, check.put(x, 0, 2, 0)), -1);
        check.due("a folder", x.length(0, check.put(x, 0, Check.folder(1, leaf))), -1);
        check.due("a shard", x.length(0, check.put(x, 0, Check.shard(1, leaf))), -1);
        check.due("elsewhere", x.length(1, leaf), -1);
        for (int store : new int[] {-1, 3, Integer.MIN_VALUE, Integer.MAX_VALUE}) {
            check.due("no store", x.length(store, leaf), -1);
        }
        for (int name : new int[] {-1, 0, 65520, 65521, leaf + 65521, leaf - 65521}) {
            check.due("no block", x.length(0, name), -1);
        }
        check.due("collect", x.collect(0), 4);
        check.due("gone", x.length(0, leaf), -1);
    }

    private static void readFromALeaf() {
        check.about("in a leaf it is that byte of the content; read: -1 if p is not below its length, or below 0");
        for (int length = 0; length <= 8; length++) {
            BlockExchange x = new BlockExchange();
            int name = check.put(x, 2, Check.leaf(run(248, length)));
            for (int p = 0; p < length; p++) {
                check.due("read " + p, x.read(2, name, p), 248 + p);
            }
            check.due("read at the length", x.read(2, name, length), -1);
            check.due("read(-1)", x.read(2, name, -1), -1);
            check.due("read(most)", x.read(2, name, Integer.MAX_VALUE), -1);
            check.due("read(least)", x.read(2, name, Integer.MIN_VALUE), -1);
        }
    }

    private static void readFromATree() {
        check.about("the link of the first size that, added to those before it, is above p, at p less those before it");
        BlockExchange x = new BlockExchange();
        int one = check.put(x, 0, Check.leaf(11));
        int three = check.put(x, 0, Check.leaf(31, 32, 33));
        int eight = check.put(x, 0, Check.leaf(run(80, 8)));
        int two = check.put(x, 0, Check.leaf(21, 22));
        int root = check.put(x, 0, Check.tree(1, one, 3, three, 8, eight, 2, two));
        int[] due = {11, 31, 32, 33, 80, 81, 82, 83, 84, 85, 86, 87, 21, 22};
        for (int p = 0; p < due.length; p++) {
            check.due("read " + p, x.read(0, root, p), due[p]);
        }
        check.due("read at the length", x.read(0, root, 14), -1);
        check.due("read(-1)", x.read(0, root, -1), -1);
        check.due("read(most)", x.read(0, root, Integer.MAX_VALUE), -1);
        int above = check.put(x, 0, Check.tree(2, two, 14, root));
        check.due("the last of the first link", x.read(0, above, 1), 22);
        check.due("the first of the second link", x.read(0, above, 2), 11);
        check.due("the last of the second link", x.read(0, above, 15), 22);
        check.due("read at the length", x.read(0, above, 16), -1);
    }

    private static void readAtTheGreatestSizes() {
        check.about("p less those before it");
        // Trees of trees: 8 bytes, 32, 128, 512, .. up to 65535 in all.
        BlockExchange x = new BlockExchange();
        int name = check.put(x, 0, Check.leaf(run(1, 8)));
        int size = 8;
        while (4 * size <= 65535) {
            name = check.put(x, 0, Check.tree(size, name, size, name, size, name, size, name));
            size *= 4;
        }
        int root = check.put(x, 0, Check.tree(size, name, size, name, size - 1, name));
        check.due("size", size, 32768);
        check.due("length", x.length(0, root), 98303);
        check.due("the last of the first", x.read(0, root, 32767), 8);
        check.due("the first of the second", x.read(0, root, 32768), 1);
        check.due("the last of the second, beyond 65535", x.read(0, root, 65535), 8);
        check.due("a link whose length is one more than the size", x.read(0, root, 65536), -2);
        check.due("the last", x.read(0, root, 98302), -2);
        check.due("behind", x.read(0, root, 98303), -1);
    }

    private static void readWithoutAFile() {
        check.about("read: -1 if there is no leaf or tree of that name");
        BlockExchange x = new BlockExchange();
        int leaf = check.put(x, 0, Check.leaf(1, 2));
        int folder = check.put(x, 0, Check.folder(1, leaf));
        int shard = check.put(x, 0, Check.shard(1, leaf));
        check.due("a folder", x.read(0, folder, 0), -1);
        check.due("a shard", x.read(0, shard, 0), -1);
        check.due("elsewhere", x.read(1, leaf, 0), -1);
        for (int store : new int[] {-1, 3, Integer.MIN_VALUE, Integer.MAX_VALUE}) {
            check.due("no store", x.read(store, leaf, 0), -1);
        }
        for (int name : new int[] {-1, 0, 65520, 65521, leaf + 65521, leaf - 65521}) {
            check.due("no block", x.read(0, name, 0), -1);
        }
    }

    private static void brokenWhenNotThere() {
        check.about("This is BROKEN if that block is not there");
        BlockExchange x = new BlockExchange();
        int leaf = Check.nameOf(0, 5);
        int root = check.put(x, 0, Check.tree(1, leaf));
        int above = check.put(x, 0, Check.tree(1, root));
        check.put(x, 1, 0, 5);
        check.due("read", x.read(0, root, 0), -2);
        check.due("read two links above it", x.read(0, above, 0), -2);
        check.due("read at the length", x.read(0, root, 1), -1);
        check.put(x, 0, 0, 5);
        check.due("read when it is there", x.read(0, root, 0), 5);
        check.due("read when it is there", x.read(0, above, 0), 5);
        check.due("link 0", x.read(0, check.put(x, 0, Check.tree(1, 0)), 0), -2);
        check.due("link 65520", x.read(0, check.put(x, 0, Check.tree(1, 65520)), 0), -2);
    }

    private static void brokenWhenNoFile() {
        check.about("This is BROKEN if that block is neither leaf nor tree");
        BlockExchange x = new BlockExchange();
        int folder = check.put(x, 0, 2, 0);
        int shard = check.put(x, 0, Check.shard(3, 5, 6));
        for (int size = 1; size <= 6; size++) {
            check.due("a folder", x.read(0, check.put(x, 0, Check.tree(size, folder)), 0), -2);
            check.due("a shard", x.read(0, check.put(x, 0, Check.tree(size, shard)), 0), -2);
        }
        int tree = check.put(x, 0, Check.tree(1, folder));
        check.due("one link further down", x.read(0, check.put(x, 0, Check.tree(1, tree)), 0), -2);
    }

    private static void brokenWhenOfAnotherLength() {
        check.about("This is BROKEN if its length is not the size");
        BlockExchange x = new BlockExchange();
        int none = check.put(x, 0, 0);
        int leaf = check.put(x, 0, Check.leaf(run(1, 8)));
        int tree = check.put(x, 0, Check.tree(8, leaf, 8, leaf));
        int[][] parts = {{8, leaf}, {16, tree}};
        for (int[] part : parts) {
            check.due("the size", x.read(0, check.put(x, 0, Check.tree(part[0], part[1])), 0), 1);
            check.due("one less", x.read(0, check.put(x, 0, Check.tree(part[0] - 1, part[1])), 0), -2);
            check.due("one more", x.read(0, check.put(x, 0, Check.tree(part[0] + 1, part[1])), 0), -2);
            check.due("256 more", x.read(0, check.put(x, 0, Check.tree(part[0] + 256, part[1])), 0), -2);
        }
        check.due("an empty leaf", x.read(0, check.put(x, 0, Check.tree(1, none)), 0), -2);
        // Lengths beyond what a size can tell: 65536 + 8 is not 8.
        int great = check.put(x, 0, Check.tree(8, leaf, 65535, leaf, 1, leaf));
        check.due("length", x.length(0, great), 65544);
        check.due("read", x.read(0, great, 0), 1);
        check.due("65536 more", x.read(0, check.put(x, 0, Check.tree(8, great)), 0), -2);
    }

    private static void brokenAfterTenLinks() {
        check.about("This is BROKEN if more than 10 links were followed");
        BlockExchange x = new BlockExchange();
        int name = check.put(x, 0, Check.leaf(41, 42));
        for (int links = 1; links <= 13; links++) {
            name = check.put(x, 0, Check.tree(2, name));
            check.due("read through " + links, x.read(0, name, 0), links <= 10 ? 41 : -2);
            check.due("read through " + links, x.read(0, name, 1), links <= 10 ? 42 : -2);
            check.due("read behind", x.read(0, name, 2), -1);
            check.due("length", x.length(0, name), 2);
        }
        // Another way, one link shorter or longer, by the part of the root that is read.
        BlockExchange y = new BlockExchange();
        int nine = check.put(y, 0, Check.leaf(41));
        for (int links = 1; links <= 9; links++) {
            nine = check.put(y, 0, Check.tree(1, nine));
        }
        int ten = check.put(y, 0, Check.tree(1, nine));
        int root = check.put(y, 0, Check.tree(1, nine, 1, ten));
        check.due("read through 10", y.read(0, root, 0), 41);
        check.due("read through 11", y.read(0, root, 1), -2);
    }

    private static void brokenOnlyOnTheWay() {
        check.about("one goes on with the link of the first size that, added to those before it, is above p");
        BlockExchange x = new BlockExchange();
        int leaf = check.put(x, 0, Check.leaf(7));
        int folder = check.put(x, 0, 2, 0);
        int root = check.put(x, 0, Check.tree(1, 5, 1, leaf, 1, folder, 3, leaf));
        check.due("not there", x.read(0, root, 0), -2);
        check.due("whole", x.read(0, root, 1), 7);
        check.due("no file", x.read(0, root, 2), -2);
        check.due("of another length", x.read(0, root, 3), -2);
        check.due("behind", x.read(0, root, 6), -1);
        check.due("blocks", x.blocks(0), 3);
    }
}
