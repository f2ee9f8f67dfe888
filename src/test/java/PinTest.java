/** Promises 14 (pin), 15 (collect) and 16 (blocks). */
public final class PinTest {
    private static final Check check = new Check("PinTest");

    public static void main(String[] args) {
        pinning();
        eightPins();
        collecting();
        plainAndDeep();
        everyForm();
        ring();
        whatIsMissing();
        runningFetch();
        roomAgain();
        check.end();
    }

    private static void pinning() {
        BlockExchange x = new BlockExchange();
        int a = check.put(x, 0, Check.leaf(1));
        int b = check.put(x, 1, Check.leaf(2));
        check.due("pin, no store", x.pin(-1, a, true, true), false);
        check.due("pin, no store", x.pin(3, a, true, true), false);
        check.due("unpin, no store", x.pin(3, a, true, false), false);
        check.due("pin what is not there", x.pin(0, b, false, true), false);
        check.due("pin no name", x.pin(0, -1, false, true), false);
        check.due("unpin what is not pinned", x.pin(0, a, true, false), false);
        check.due("pin deep", x.pin(0, a, true, true), true);
        check.due("pin deep again", x.pin(0, a, true, true), false);
        check.due("unpin as plain", x.pin(0, a, false, false), false);
        check.due("pin plain too", x.pin(0, a, false, true), true);
        check.due("pin plain again", x.pin(0, a, false, true), false);
        check.due("unpin deep", x.pin(0, a, true, false), true);
        check.due("unpin deep again", x.pin(0, a, true, false), false);
        check.due("collect with the plain pin", x.collect(0), 0);
        check.due("unpin plain", x.pin(0, a, false, false), true);
        check.due("collect without a pin", x.collect(0), 1);
        check.due("pin what is gone", x.pin(0, a, false, true), false);
        check.due("the other store's block", x.blocks(1), 1);
    }

    private static void eightPins() {
        BlockExchange x = new BlockExchange();
        int[] names = new int[9];
        for (int i = 0; i < 9; i++) {
            names[i] = check.put(x, 2, Check.leaf(i));
        }
        for (int i = 0; i < 4; i++) {
            check.due("pin", x.pin(2, names[i], false, true), true);
            check.due("pin", x.pin(2, names[i], true, true), true);
        }
        check.due("a 9th pin", x.pin(2, names[4], false, true), false);
        check.due("unpin the first", x.pin(2, names[0], false, false), true);
        check.due("pin in its place", x.pin(2, names[8], false, true), true);
        check.due("a 9th pin", x.pin(2, names[5], true, true), false);
        check.due("unpin what was refused", x.pin(2, names[5], true, false), false);
        check.due("collect", x.collect(2), 4);
        for (int i = 0; i < 9; i++) {
            check.due("bytes", x.bytes(2, names[i]), i < 4 || i == 8 ? 2 : -1);
        }
        check.due("blocks", x.blocks(2), 5);
    }

    private static void collecting() {
        BlockExchange x = new BlockExchange();
        check.due("collect(-1)", x.collect(-1), -1);
        check.due("collect(3)", x.collect(3), -1);
        check.due("collect of nothing", x.collect(0), 0);
        int a = check.put(x, 0, Check.leaf(1));
        int b = check.put(x, 0, Check.leaf(2));
        int c = check.put(x, 0, Check.leaf(3));
        check.put(x, 1, Check.leaf(1));
        check.due("pin the middle", x.pin(0, b, false, true), true);
        check.due("collect", x.collect(0), 2);
        check.due("blocks", x.blocks(0), 1);
        check.due("a is gone", x.bytes(0, a), -1);
        check.hasBlock(x, 0, Check.leaf(2));
        check.due("c is gone", x.read(0, c, 0), -1);
        check.due("collect again", x.collect(0), 0);
        check.due("the other store", x.blocks(1), 1);
        check.put(x, 0, Check.leaf(3, 3, 3));
        check.hasBlock(x, 0, Check.leaf(2));
        check.hasBlock(x, 0, Check.leaf(3, 3, 3));
    }

    private static void plainAndDeep() {
        BlockExchange x = new BlockExchange();
        int leaf = check.put(x, 0, Check.leaf(1));
        int inner = check.put(x, 0, Check.tree(1, leaf));
        int root = check.put(x, 0, Check.tree(1, inner));
        // The plain pin of the inner tree must not hide from the deep one what is under it.
        check.due("pin plain", x.pin(0, inner, false, true), true);
        check.due("pin deep", x.pin(0, root, true, true), true);
        check.due("collect", x.collect(0), 0);
        check.due("unpin deep", x.pin(0, root, true, false), true);
        check.due("collect", x.collect(0), 2);
        check.due("blocks", x.blocks(0), 1);
        check.hasBlock(x, 0, Check.tree(1, leaf));
    }

    private static void everyForm() {
        BlockExchange x = new BlockExchange();
        int[] leaves = new int[4];
        for (int i = 0; i < 4; i++) {
            leaves[i] = check.put(x, 0, Check.leaf(i));
        }
        int stray = check.put(x, 0, Check.leaf(9));
        int tree = check.put(x, 0, Check.tree(1, leaves[0], 1, leaves[1]));
        int folder = check.put(x, 0, Check.folder(5, tree, 9, leaves[2]));
        int shard = check.put(x, 0, Check.shard(5, leaves[3], folder));
        check.due("pin deep", x.pin(0, shard, true, true), true);
        check.due("collect", x.collect(0), 1);
        check.due("the stray one is gone", x.bytes(0, stray), -1);
        check.due("blocks", x.blocks(0), 7);
        check.due("unpin", x.pin(0, shard, true, false), true);
        check.due("pin the folder", x.pin(0, folder, true, true), true);
        check.due("collect", x.collect(0), 2);
        check.due("the last leaf is gone", x.bytes(0, leaves[3]), -1);
        check.due("the third leaf is kept", x.bytes(0, leaves[2]), 2);
    }

    /** Two blocks can't easily link each other, but one can link itself. */
    private static void ring() {
        for (int title = 1; title < 256; title++) {
            for (int link = 0; link < 65521; link++) {
                int[] row = Check.folder(title, link);
                if (Check.nameOf(row) == link) {
                    BlockExchange x = new BlockExchange();
                    int name = check.put(x, 0, row);
                    check.due("collect of a ring", x.collect(0), 1);
                    check.put(x, 0, row);
                    check.due("pin of a ring", x.pin(0, name, true, true), true);
                    check.due("collect of a pinned ring", x.collect(0), 0);
                    check.due("fetch of a ring that is there", x.fetch(0, 1, name), 0);
                    check.due("fetch of a ring", x.fetch(1, 0, name), 1);
                    check.due("deliver", x.deliver(0), 0);
                    check.due("deliver", x.deliver(0), 1);
                    check.due("state", x.state(1), 2);
                    return;
                }
            }
        }
        check.due("a folder that links itself was found", 0, 1);
    }

    private static void whatIsMissing() {
        BlockExchange x = new BlockExchange();
        int leaf = Check.nameOf(Check.leaf(1));
        int inner = Check.nameOf(Check.tree(1, leaf));
        int root = check.put(x, 0, Check.tree(1, inner));
        check.put(x, 0, Check.leaf(1));
        check.due("pin deep", x.pin(0, root, true, true), true);
        check.due("collect: nothing there links the leaf", x.collect(0), 1);
        check.put(x, 0, Check.leaf(1));
        check.put(x, 0, Check.tree(1, leaf));
        check.due("collect: now something does", x.collect(0), 0);
        check.due("blocks", x.blocks(0), 3);
    }

    private static void runningFetch() {
        BlockExchange x = new BlockExchange();
        int a = Check.nameOf(Check.leaf(1));
        int b = Check.nameOf(Check.leaf(2));
        int root = check.put(x, 0, Check.tree(1, a, 1, b));
        check.put(x, 0, Check.leaf(1));
        int stray = check.put(x, 0, Check.leaf(7));
        check.due("fetch", x.fetch(0, 1, root), 1);
        check.due("collect while the fetch is running", x.collect(0), 1);
        check.due("the stray one is gone", x.bytes(0, stray), -1);
        check.due("state", x.state(0), 1);
        check.put(x, 0, Check.leaf(2));
        check.due("state", x.state(0), 2);
        check.due("collect when it is done", x.collect(0), 3);
        check.due("state", x.state(0), 2);
        check.put(x, 0, Check.tree(1, a, 1, b));
        check.due("fetch", x.fetch(0, 1, root), 2);
        check.due("lost", x.harm(0, 0, 0), true);
        check.due("deliver", x.deliver(0), 0);
        check.due("deliver", x.deliver(1), 2);
        check.due("state", x.state(0), 3);
        check.due("collect when it has failed", x.collect(0), 1);
    }

    private static void roomAgain() {
        BlockExchange x = new BlockExchange();
        check.fill(x, 0, 9, 64);
        check.due("pin one", x.pin(0, Check.nameOf(0, 9, 40), false, true), true);
        check.due("collect of a full store", x.collect(0), 63);
        check.hasBlock(x, 0, 0, 9, 40);
        check.fill(x, 0, 8, 20);
        check.due("blocks", x.blocks(0), 21);
        check.hasBlock(x, 0, 0, 8, 19);
        check.hasBlock(x, 0, 0, 9, 40);
    }
}
