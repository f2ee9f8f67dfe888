/** Promises 17 (fetch), 18 (retry), 19 (deliver) and 23 (state). */
public final class FetchTest {
    private static final Check check = new Check("FetchTest");

    public static void main(String[] args) {
        wrongNumbers();
        wholeFetch();
        walkOrder();
        onlyNewWants();
        newWantsOnce();
        fetchInPlaceOfAnother();
        none();
        noneThatChangesNothing();
        giveThatChangesNothing();
        damagedGive();
        giveOfAnotherBlockThatIsMissing();
        fullStore();
        doneByOtherCalls();
        manyMissing();
        ring();
        check.end();
    }

    private static void wants(BlockExchange x, int from, int to, int... names) {
        check.due("waiting", x.waiting(), names.length);
        for (int i = 0; i < names.length; i++) {
            check.due("kind of " + i, x.message(i, 0), 0);
            check.due("sender of " + i, x.message(i, 1), from);
            check.due("receiver of " + i, x.message(i, 2), to);
            check.due("name of " + i, x.message(i, 3), names[i]);
        }
    }

    private static void deliverAll(BlockExchange x) {
        for (int i = 0; i < 200 && x.waiting() > 0; i++) {
            x.deliver(0);
        }
    }

    private static void wrongNumbers() {
        BlockExchange x = new BlockExchange();
        check.due("fetch(-1, 0, 1)", x.fetch(-1, 0, 1), -1);
        check.due("fetch(3, 0, 1)", x.fetch(3, 0, 1), -1);
        check.due("fetch(0, -1, 1)", x.fetch(0, -1, 1), -1);
        check.due("fetch(0, 3, 1)", x.fetch(0, 3, 1), -1);
        check.due("fetch(1, 1, 1)", x.fetch(1, 1, 1), -1);
        check.due("fetch(0, 1, -1)", x.fetch(0, 1, -1), -1);
        check.due("fetch(0, 1, 65521)", x.fetch(0, 1, 65521), -1);
        check.due("waiting after refusals", x.waiting(), 0);
        check.due("state after refusals", x.state(0), 0);
        check.due("retry(-1)", x.retry(-1), -1);
        check.due("retry(3)", x.retry(3), -1);
        check.due("retry without a fetch", x.retry(0), -1);
        check.due("state(-1)", x.state(-1), -1);
        check.due("state(3)", x.state(3), -1);
        check.due("fetch(0, 2, 65520)", x.fetch(0, 2, 65520), 1);
        check.due("fetch(1, 2, 0)", x.fetch(1, 2, 0), 1);
        check.due("refused, the old one goes on", x.fetch(0, 0, 5), -1);
        check.due("state", x.state(0), 1);
        check.due("state", x.state(1), 1);
        check.due("state", x.state(2), 0);
        check.due("deliver(-1)", x.deliver(-1), -1);
        check.due("deliver(2)", x.deliver(2), -1);
        check.due("waiting", x.waiting(), 2);
    }

    private static void wholeFetch() {
        BlockExchange x = new BlockExchange();
        check.type(x, 1, 2, 3, 4, 5);
        int root = x.add(0, 2, 2);
        check.due("fetch", x.fetch(2, 0, root), 1);
        wants(x, 2, 0, root);
        check.due("retry", x.retry(2), 1);
        wants(x, 2, 0, root, root);
        check.due("deliver a WANT", x.deliver(0), 0);
        check.due("the answer comes last", x.message(1, 0), 1);
        check.due("its sender", x.message(1, 1), 0);
        check.due("its receiver", x.message(1, 2), 2);
        check.due("its name", x.message(1, 3), root);
        check.due("nothing has come in", x.blocks(2), 0);
        deliverAll(x);
        check.due("state", x.state(2), 2);
        check.due("blocks", x.blocks(2), x.blocks(0));
        for (int p = 0; p < 5; p++) {
            check.due("read", x.read(2, root, p), p + 1);
        }
        check.due("retry when done", x.retry(2), -1);
        check.due("waiting", x.waiting(), 0);
        check.due("fetch of what is there", x.fetch(2, 1, root), 0);
        check.due("state", x.state(2), 2);
        check.due("waiting", x.waiting(), 0);
        check.due("the peer's state", x.state(0), 0);
    }

    private static void walkOrder() {
        BlockExchange x = new BlockExchange();
        int deep = check.put(x, 0, Check.folder(1, 103, 2, 101));
        int left = check.put(x, 0, Check.shard(6, deep, 104));
        int right = check.put(x, 0, Check.tree(7, 101, 8, 105, 9, 104));
        int root = check.put(x, 0, Check.folder(3, 106, 5, left, 7, 102, 9, right));
        check.due("fetch", x.fetch(0, 1, root), 6);
        wants(x, 0, 1, 106, 103, 101, 104, 102, 105);
        check.due("retry", x.retry(0), 6);
        for (int i = 0; i < 6; i++) {
            check.due("lost", x.harm(0, 0, 0), true);
        }
        wants(x, 0, 1, 106, 103, 101, 104, 102, 105);
        // 102 is met again further down in the left part, and comes earlier then.
        BlockExchange y = new BlockExchange();
        deep = check.put(y, 0, Check.tree(1, 102));
        root = check.put(y, 0, Check.tree(1, deep, 1, 101, 1, 102));
        check.due("fetch", y.fetch(0, 1, root), 2);
        wants(y, 0, 1, 102, 101);
    }

    private static void onlyNewWants() {
        BlockExchange x = new BlockExchange();
        int a = check.put(x, 0, Check.leaf(1));
        int inner = check.put(x, 0, Check.tree(1, a, 2, 777));
        int root = check.put(x, 0, Check.tree(3, inner, 1, a, 9, 888));
        check.due("fetch", x.fetch(1, 0, root), 1);
        check.due("deliver", x.deliver(0), 0);
        check.due("deliver", x.deliver(0), 1);
        wants(x, 1, 0, inner, a, 888);
        check.due("deliver", x.deliver(0), 0);
        check.due("deliver", x.deliver(2), 1);
        // The leaf was missing before: 777 alone is new.
        wants(x, 1, 0, a, 888, 777);
        check.due("retry", x.retry(1), 3);
        check.due("name", x.message(3, 3), a);
        check.due("name", x.message(4, 3), 777);
        check.due("name", x.message(5, 3), 888);
    }

    private static void newWantsOnce() {
        BlockExchange x = new BlockExchange();
        int root = check.put(x, 0, Check.tree(1, 11, 1, 12));
        check.due("fetch", x.fetch(1, 0, root), 1);
        // What put brings makes names missing, but a GIVE alone asks for new ones.
        check.put(x, 1, Check.tree(1, 11, 1, 12));
        check.due("waiting after put", x.waiting(), 1);
        check.due("state after put", x.state(1), 1);
        check.due("deliver", x.deliver(0), 0);
        check.due("deliver a GIVE that is not missing any more", x.deliver(0), 1);
        check.due("waiting", x.waiting(), 0);
        check.due("retry", x.retry(1), 2);
        wants(x, 1, 0, 11, 12);
    }

    private static void fetchInPlaceOfAnother() {
        BlockExchange x = new BlockExchange();
        int a = check.put(x, 0, Check.leaf(1));
        int b = check.put(x, 2, Check.leaf(2));
        check.due("fetch a from 0", x.fetch(1, 0, a), 1);
        check.due("fetch b from 2", x.fetch(1, 2, b), 1);
        check.due("old WANT stays", x.message(0, 3), a);
        check.due("deliver the old WANT", x.deliver(0), 0);
        check.due("deliver the old GIVE", x.deliver(1), 1);
        check.due("it has not come in", x.blocks(1), 0);
        check.due("state", x.state(1), 1);
        check.due("deliver", x.deliver(0), 0);
        check.due("deliver", x.deliver(0), 1);
        check.due("state", x.state(1), 2);
        check.due("fetch what nobody has", x.fetch(1, 0, 5), 1);
        check.due("state in place of a done one", x.state(1), 1);
        deliverAll(x);
        check.due("state", x.state(1), 3);
        check.due("fetch in place of a failed one", x.fetch(1, 0, a), 1);
        check.due("state", x.state(1), 1);
        deliverAll(x);
        check.due("state", x.state(1), 2);
    }

    private static void none() {
        BlockExchange x = new BlockExchange();
        check.due("fetch", x.fetch(1, 2, 500), 1);
        check.due("deliver", x.deliver(0), 0);
        check.due("kind", x.message(0, 0), 2);
        check.due("sender", x.message(0, 1), 2);
        check.due("receiver", x.message(0, 2), 1);
        check.due("name", x.message(0, 3), 500);
        check.due("state", x.state(1), 1);
        check.due("deliver", x.deliver(0), 2);
        check.due("state", x.state(1), 3);
        check.due("retry when failed", x.retry(1), -1);
        check.put(x, 1, Check.leaf(1));
        check.due("a failed one stays so", x.state(1), 3);
        BlockExchange y = new BlockExchange();
        int a = Check.nameOf(Check.leaf(1));
        y.fetch(1, 0, a);
        y.deliver(0);
        y.deliver(0);
        check.put(y, 1, Check.leaf(1));
        check.due("a failed one stays so, though nothing is missing", y.state(1), 3);
    }

    private static void noneThatChangesNothing() {
        BlockExchange x = new BlockExchange();
        int a = check.put(x, 2, Check.leaf(1));
        x.fetch(1, 0, a);
        x.deliver(0);
        x.fetch(1, 2, a);
        check.due("NONE of one that is not the peer", x.deliver(0), 2);
        check.due("state", x.state(1), 1);
        x.fetch(1, 0, a);
        x.deliver(1);
        check.put(x, 1, Check.leaf(1));
        check.due("done by put", x.state(1), 2);
        check.due("NONE when done", x.deliver(1), 2);
        check.due("state", x.state(1), 2);
        BlockExchange y = new BlockExchange();
        y.fetch(1, 0, 5);
        y.deliver(0);
        y.fetch(1, 0, 6);
        check.due("NONE of a name that is not missing", y.deliver(0), 2);
        check.due("state", y.state(1), 1);
        y.fetch(1, 0, 5);
        check.due("deliver the WANT of the fetch before", y.deliver(0), 0);
        check.due("its NONE is not missing any more", y.deliver(1), 2);
        check.due("state", y.state(1), 1);
        check.due("deliver", y.deliver(0), 0);
        check.due("deliver", y.deliver(0), 2);
        check.due("state", y.state(1), 3);
    }

    private static void giveThatChangesNothing() {
        BlockExchange x = new BlockExchange();
        int a = check.put(x, 0, Check.leaf(1));
        x.fetch(1, 0, a);
        x.retry(1);
        x.deliver(0);
        x.deliver(0);
        check.due("two GIVEs wait", x.waiting(), 2);
        check.due("deliver the first", x.deliver(0), 1);
        check.due("state", x.state(1), 2);
        check.due("deliver the second", x.deliver(0), 1);
        check.due("blocks", x.blocks(1), 1);
        check.due("state", x.state(1), 2);
        x.collect(1);
        x.fetch(1, 0, a);
        x.deliver(0);
        x.fetch(1, 0, 9);
        check.due("a GIVE that is not under the root", x.deliver(0), 1);
        check.due("blocks", x.blocks(1), 0);
        check.due("state", x.state(1), 1);
    }

    private static void damagedGive() {
        BlockExchange x = new BlockExchange();
        int a = check.put(x, 0, 0, 0, 0, 7);
        x.fetch(1, 0, a);
        x.deliver(0);
        check.due("harm", x.harm(0, 3, 1), true);
        check.due("deliver", x.deliver(0), 1);
        check.due("blocks", x.blocks(1), 0);
        check.due("state", x.state(1), 1);
        check.due("waiting", x.waiting(), 0);
        check.due("retry", x.retry(1), 1);
        x.deliver(0);
        check.due("harm", x.harm(0, 1, 249), true);
        check.due("harm", x.harm(0, 2, 34), true);
        check.due("the name is the same", x.message(0, 3), a);
        check.due("deliver", x.deliver(0), 1);
        check.due("other bytes of that name come in", x.raw(1, a, 1), 249);
        check.due("state", x.state(1), 2);
        check.due("the peer's block is as it was", x.raw(0, a, 1), 0);
    }

    /** A damaged GIVE that is another missing block comes in; one that is no block does not. */
    private static void giveOfAnotherBlockThatIsMissing() {
        BlockExchange x = new BlockExchange();
        int a = check.put(x, 0, Check.leaf(1));
        int b = Check.nameOf(Check.leaf(3));
        int bare = Check.nameOf(4, 1);
        int root = check.put(x, 0, Check.tree(1, a, 1, b, 1, bare));
        check.put(x, 1, Check.tree(1, a, 1, b, 1, bare));
        check.due("fetch", x.fetch(1, 0, root), 3);
        x.deliver(0);
        check.due("harm", x.harm(2, 1, 2), true);
        check.due("deliver", x.deliver(2), 1);
        check.due("it has come in", x.read(1, b, 0), 3);
        check.due("retry", x.retry(1), 2);
        wants(x, 1, 0, b, bare, a, bare);
        x.deliver(2);
        check.due("harm", x.harm(3, 0, 4), true);
        check.due("a missing name", x.message(3, 3), bare);
        check.due("deliver what is no block", x.deliver(3), 1);
        check.due("blocks", x.blocks(1), 2);
        check.due("state", x.state(1), 1);
    }

    private static void fullStore() {
        BlockExchange x = new BlockExchange();
        int a = check.put(x, 0, Check.leaf(1));
        int root = check.put(x, 0, Check.tree(1, a));
        check.fill(x, 1, 9, 63);
        check.due("fetch", x.fetch(1, 0, root), 1);
        x.deliver(0);
        x.deliver(0);
        check.due("blocks", x.blocks(1), 64);
        check.due("state", x.state(1), 1);
        x.deliver(0);
        check.due("deliver without room", x.deliver(0), 1);
        check.due("state", x.state(1), 3);
        check.due("blocks", x.blocks(1), 64);
        check.due("collect", x.collect(1), 64);
    }

    private static void doneByOtherCalls() {
        BlockExchange x = new BlockExchange();
        int leaf = Check.nameOf(Check.leaf(1, 2));
        x.fetch(0, 1, leaf);
        check.type(x, 1, 2);
        check.due("add", x.add(0, 8, 2), leaf);
        check.due("done by add", x.state(0), 2);
        x.fetch(1, 0, Check.nameOf(2, 0));
        check.due("folder elsewhere", x.folder(2), Check.nameOf(2, 0));
        check.due("not done by it", x.state(1), 1);
        check.due("folder", x.folder(1), Check.nameOf(2, 0));
        check.due("done by folder", x.state(1), 2);
        int[] tree = Check.tree(2, leaf, 1, Check.nameOf(0, 3));
        x.fetch(0, 1, Check.nameOf(tree));
        check.put(x, 0, tree);
        check.due("not done yet", x.state(0), 1);
        check.put(x, 0, 0, 3);
        check.due("done by put", x.state(0), 2);
        check.due("collect", x.collect(0), 3);
        check.due("a done one stays so", x.state(0), 2);
    }

    /** Behind a block's link to itself the walk goes on with the next link. */
    private static void ring() {
        for (int code = 0; code < 254 * 65521; code++) {
            int link = code % 65521;
            int[] row = Check.folder(1 + code / 65521, link, 255, 12345);
            if (Check.nameOf(row) == link) {
                BlockExchange x = new BlockExchange();
                check.put(x, 0, row);
                check.due("fetch", x.fetch(0, 1, link), 1);
                wants(x, 0, 1, 12345);
                check.due("state", x.state(0), 1);
                return;
            }
        }
        check.due("a folder that links itself was found", 0, 1);
    }

    private static void manyMissing() {
        BlockExchange x = new BlockExchange();
        int[] folders = new int[16];
        for (int i = 0; i < 16; i++) {
            int n = 1000 + 4 * i;
            folders[i] = check.put(x, 0, Check.folder(1, n, 2, n + 1, 3, n + 2, 4, n + 3));
        }
        int[] shards = new int[4];
        for (int i = 0; i < 4; i++) {
            shards[i] = check.put(x, 0, Check.shard(15, folders[4 * i], folders[4 * i + 1],
                    folders[4 * i + 2], folders[4 * i + 3]));
        }
        int root = check.put(x, 0, Check.shard(15, shards));
        check.due("fetch", x.fetch(0, 1, root), 64);
        check.due("24 wait", x.waiting(), 24);
        check.due("the last that waits", x.message(23, 3), 1023);
        check.due("retry, all are lost", x.retry(0), 64);
        check.due("24 wait", x.waiting(), 24);
        check.due("message(24, 0)", x.message(24, 0), -1);
        check.due("deliver", x.deliver(5), 0);
        check.due("the answer has room", x.waiting(), 24);
        check.due("it comes last", x.message(23, 0), 2);
        check.due("its name", x.message(23, 3), 1005);
        check.due("the others moved up", x.message(5, 3), 1006);
    }
}
