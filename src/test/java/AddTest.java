/** Promise 6 (add). */
public final class AddTest {
    private static final Check check = new Check("AddTest");

    public static void main(String[] args) {
        oneLeaf();
        chunks();
        levels();
        contentCuts();
        sameBlocks();
        wrongNumbers();
        collisionWithTheStore();
        collisionWithOneAnother();
        room();
        check.end();
    }

    private static void oneLeaf() {
        BlockExchange x = new BlockExchange();
        check.due("add of nothing, chunk 0", x.add(0, 0, 2), Check.nameOf(0));
        check.due("add of nothing, chunk 8", x.add(1, 8, 4), Check.nameOf(0));
        check.hasBlock(x, 0, 0);
        check.due("blocks", x.blocks(0), 1);
        check.type(x, 1, 2, 3);
        check.due("add of a whole chunk", x.add(0, 3, 2), Check.nameOf(0, 1, 2, 3));
        check.due("name after add", x.name(), 40503);
        check.due("blocks", x.blocks(0), 2);
        check.type(x, 1, 2, 3, 4, 5, 6, 7, 8);
        check.due("add of the longest leaf", x.add(2, 8, 2), Check.nameOf(0, 1, 2, 3, 4, 5, 6, 7, 8));
        check.due("blocks", x.blocks(2), 1);
    }

    private static void chunks() {
        BlockExchange x = new BlockExchange();
        int a = Check.nameOf(0, 10, 11);
        int b = Check.nameOf(0, 12, 13);
        int c = Check.nameOf(0, 14);
        check.type(x, 10, 11, 12, 13, 14);
        int[] root = Check.tree(2, a, 2, b, 1, c);
        check.due("add in chunks of 2", x.add(1, 2, 3), Check.nameOf(root));
        check.hasBlock(x, 1, root);
        check.hasBlock(x, 1, 0, 10, 11);
        check.hasBlock(x, 1, 0, 12, 13);
        check.hasBlock(x, 1, 0, 14);
        check.due("blocks", x.blocks(1), 4);
        check.due("list is as it was", x.folder(0), Check.nameOf(2, 0));
    }

    private static void levels() {
        BlockExchange x = new BlockExchange();
        int a = Check.nameOf(0, 1);
        int b = Check.nameOf(0, 2);
        int c = Check.nameOf(0, 3);
        int[] left = Check.tree(1, a, 1, b);
        int[] right = Check.tree(1, c);
        int[] root = Check.tree(2, Check.nameOf(left), 1, Check.nameOf(right));
        check.type(x, 1, 2, 3);
        check.due("the last tree with what is left", x.add(0, 1, 2), Check.nameOf(root));
        check.hasBlock(x, 0, left);
        check.hasBlock(x, 0, right);
        check.hasBlock(x, 0, root);
        check.due("blocks", x.blocks(0), 6);
        for (int i = 0; i < 32; i++) {
            check.type(x, 7 * i);
        }
        int name = x.add(1, 1, 2);
        check.due("blocks of 32 leaves", x.blocks(1), 63);
        check.due("length of 32 leaves", x.length(1, name), 32);
        check.due("links of the root", x.bytes(1, name), 10);
        for (int i = 0; i < 32; i++) {
            check.due("read " + i, x.read(1, name, i), 7 * i);
        }
        for (int i = 0; i < 32; i++) {
            check.type(x, i);
        }
        name = x.add(2, 2, 4);
        check.due("blocks of 16 leaves", x.blocks(2), 21);
        check.due("links of the root", x.bytes(2, name), 18);
        check.due("size in the root", x.raw(2, name, 2), 8);
    }

    private static void contentCuts() {
        BlockExchange x = new BlockExchange();
        // 3 * 5 + 5 is divisible by 5, 3 * 2 + 9 too; a first byte never ends a piece.
        check.type(x, 5, 5, 2, 9, 1, 0);
        int[] root = Check.tree(2, Check.nameOf(0, 5, 5), 2, Check.nameOf(0, 2, 9), 2, Check.nameOf(0, 1, 0));
        check.due("add by content", x.add(0, 0, 4), Check.nameOf(root));
        check.hasBlock(x, 0, root);
        // No sum of 3 * 1 + 1 is divisible by 5: the 8th byte ends a piece.
        check.type(x, 1, 1, 1, 1, 1, 1, 1, 1, 1, 1);
        int[] ones = Check.tree(8, Check.nameOf(0, 1, 1, 1, 1, 1, 1, 1, 1), 2, Check.nameOf(0, 1, 1));
        check.due("add behind the 8th byte", x.add(1, 0, 4), Check.nameOf(ones));
        check.hasBlock(x, 1, ones);
        // The byte before counts within the piece alone: 3 * 0 + 5 would be divisible behind the cut.
        check.type(x, 0, 0, 5, 1, 4);
        int[] fresh = Check.tree(2, Check.nameOf(0, 0, 0), 3, Check.nameOf(0, 5, 1, 4));
        check.due("add, the first byte of a piece", x.add(2, 0, 2), Check.nameOf(fresh));
        check.hasBlock(x, 2, fresh);
        // A cut behind the very last byte begins no piece.
        check.type(x, 1, 3, 1);
        check.due("add, a cut at the end", x.add(2, 0, 2), Check.nameOf(0, 1, 3, 1));
        check.type(x, 255, 255);
        check.due("add of two great bytes", x.add(2, 0, 2), Check.nameOf(0, 255, 255));
        check.type(x, 1, 1, 1, 1, 1, 1, 1, 1);
        check.due("add of eight bytes", x.add(2, 0, 2), Check.nameOf(0, 1, 1, 1, 1, 1, 1, 1, 1));
    }

    private static void sameBlocks() {
        BlockExchange x = new BlockExchange();
        check.type(x, 7, 7, 7, 7);
        int a = Check.nameOf(0, 7);
        int[] pair = Check.tree(1, a, 1, a);
        int[] root = Check.tree(2, Check.nameOf(pair), 2, Check.nameOf(pair));
        check.due("add of one byte four times", x.add(0, 1, 2), Check.nameOf(root));
        check.due("blocks", x.blocks(0), 3);
        check.type(x, 7, 7, 7, 7);
        check.due("add once more", x.add(0, 1, 2), Check.nameOf(root));
        check.due("blocks", x.blocks(0), 3);
    }

    private static void wrongNumbers() {
        BlockExchange x = new BlockExchange();
        check.type(x, 1, 2);
        check.due("add(-1, 1, 2)", x.add(-1, 1, 2), -1);
        check.due("add(3, 1, 2)", x.add(3, 1, 2), -1);
        check.due("add(0, -1, 2)", x.add(0, -1, 2), -1);
        check.due("add(0, 9, 2)", x.add(0, 9, 2), -1);
        check.due("add(0, 1, 1)", x.add(0, 1, 1), -1);
        check.due("add(0, 1, 5)", x.add(0, 1, 5), -1);
        check.due("add(0, 1, 0)", x.add(0, 1, 0), -1);
        check.due("add(0, 1, least)", x.add(0, 1, Integer.MIN_VALUE), -1);
        check.due("add(0, most, 2)", x.add(0, Integer.MAX_VALUE, 2), -1);
        check.due("name after refusals", x.name(), Check.nameOf(1, 2));
        check.due("blocks after refusals", x.blocks(0), 0);
    }

    private static void collisionWithTheStore() {
        BlockExchange x = new BlockExchange();
        check.put(x, 0, 0, 0, 0, 7);
        check.type(x, 1, 2, 3, 249, 34, 7, 4);
        int name = x.name();
        check.due("add, its second leaf a collision", x.add(0, 3, 2), -2);
        check.due("blocks after a collision", x.blocks(0), 1);
        check.due("name after a collision", x.name(), name);
        check.due("add elsewhere", x.add(1, 3, 2) >= 0, true);
    }

    private static void collisionWithOneAnother() {
        BlockExchange x = new BlockExchange();
        check.type(x, 0, 0, 7, 249, 34, 7);
        int name = x.name();
        check.due("add, two leaves of one name", x.add(0, 3, 2), -2);
        check.due("blocks after a collision", x.blocks(0), 0);
        check.due("name after a collision", x.name(), name);
        check.due("add in other pieces", x.add(0, 2, 4) >= 0, true);
    }

    private static void room() {
        BlockExchange x = new BlockExchange();
        check.fill(x, 0, 9, 61);
        check.type(x, 1, 2, 3);
        check.due("add of four blocks where three fit", x.add(0, 1, 3), -3);
        check.due("name without room", x.name(), Check.nameOf(1, 2, 3));
        check.due("blocks without room", x.blocks(0), 61);
        check.due("add of three blocks where three fit", x.add(0, 2, 3) >= 0, true);
        check.due("blocks of a full store", x.blocks(0), 64);
        check.type(x, 1, 2, 3);
        check.due("add of what is there already", x.add(0, 2, 3) >= 0, true);
        check.type(x, 1, 1, 1);
        check.due("add of two blocks where none fits", x.add(0, 1, 3), -3);
        x.clear();
        check.type(x, 0, 0, 7, 249, 34, 7);
        check.due("a collision counts before the room", x.add(0, 3, 2), -2);
        BlockExchange y = new BlockExchange();
        check.fill(y, 0, 9, 62);
        check.type(y, 1, 1, 1);
        check.due("add of one leaf three times where two blocks fit", y.add(0, 1, 3) >= 0, true);
        check.due("blocks of a full store", y.blocks(0), 64);
    }
}
