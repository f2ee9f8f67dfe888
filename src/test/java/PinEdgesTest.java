/** The edges of pins and of what is kept: promises 14 (pin) and 15 (collect). */
public final class PinEdgesTest {
    private static final Check check = new Check("PinEdgesTest");
    private static final int[] NO_STORES = {-1, 3, 4, Integer.MIN_VALUE, Integer.MAX_VALUE};

    public static void main(String[] args) {
        noSuchStore();
        aBlockThatIsNotThere();
        eightPins();
        eightPinsInEachStore();
        pinnedSoAlready();
        notPinnedSo();
        onAndOffAgain();
        deepAndNotAreTwoPins();
        aPinTakenAwayMakesRoom();
        collectInNoStore();
        collectOfNothingAndOfAll();
        aPlainPinKeepsOneBlock();
        aBlockIsUnderItself();
        everyLinkOfADeepOne();
        underADeepOneWithoutEnd();
        notBehindWhatIsNotThere();
        plainAndDeepTogether();
        ringsAreKept();
        aRunningFetchKeeps();
        aFetchWhoseRootIsMissingKeepsNothing();
        doneAndFailedFetchesKeepNothing();
        pinsAndFetchesOfOtherStores();
        collectLeavesTheRest();
        roomAfterCollect();
        check.end();
    }

    private static void noSuchStore() {
        check.about("pin: False, refused, if there is no such store");
        Still still = Still.busy(check);
        for (int store : NO_STORES) {
            still.refused("pin on", x -> x.pin(store, Still.A, true, true), false);
            still.refused("pin off", x -> x.pin(store, Still.A, false, false), false);
        }
        BlockExchange x = new BlockExchange();
        for (int store = 0; store < 3; store++) {
            int name = check.put(x, store, 0, 1);
            check.due("pin", x.pin(store, name, false, true), true);
            check.due("unpin", x.pin(store, name, false, false), true);
        }
    }

    private static void aBlockThatIsNotThere() {
        check.about("pin: False, refused, if on, the block is not there");
        Still still = Still.busy(check);
        for (int name : new int[] {0, 77, 65520, 65521, -1, Still.A + 65521, Integer.MIN_VALUE, Integer.MAX_VALUE}) {
            still.refused("pin of " + name, x -> x.pin(0, name, true, true), false);
            still.refused("pin of " + name, x -> x.pin(0, name, false, true), false);
        }
        still.refused("pin of a block of another store", x -> x.pin(2, Still.A, true, true), false);
        Still gone = Still.busy(check, x -> check.due("collect", x.collect(0), 1));
        gone.refused("pin of what is gone", x -> x.pin(0, Still.FOLDER, true, true), false);
        BlockExchange x = new BlockExchange();
        check.due("pin before it is there", x.pin(0, Still.A, true, true), false);
        check.put(x, 0, 0, 1);
        check.due("pin when it is there", x.pin(0, Still.A, true, true), true);
    }

    /** So many pins, each of a leaf of its own. */
    private static void pins(BlockExchange x, int store, int pins) {
        for (int i = 0; i < pins; i++) {
            int name = check.put(x, store, 0, 30 + i);
            check.due("pin " + i, x.pin(store, name, i % 2 == 0, true), true);
        }
    }

    private static int leaf(int i) {
        return Check.nameOf(0, 30 + i);
    }

    private static void eightPins() {
        check.about("A store's PINS, at most 8; pin: False, refused, if on, 8 pins are there");
        BlockExchange x = new BlockExchange();
        pins(x, 1, 7);
        check.put(x, 1, 0, 90);
        check.put(x, 1, 0, 91);
        check.due("the 8th", x.pin(1, Check.nameOf(0, 90), false, true), true);
        check.due("the 9th", x.pin(1, Check.nameOf(0, 91), false, true), false);
        check.due("collect: the 9th is not kept", x.collect(1), 1);
        check.due("bytes", x.bytes(1, Check.nameOf(0, 91)), -1);
        check.due("blocks", x.blocks(1), 8);
        Still full = new Still(check, y -> {
            pins(y, 1, 8);
            check.put(y, 1, 0, 91);
        }, leaf(0), leaf(1), leaf(2), leaf(3), leaf(4), leaf(5), leaf(6), leaf(7), Check.nameOf(0, 91));
        full.refused("the 9th", y -> y.pin(1, Check.nameOf(0, 91), false, true), false);
        full.refused("the 9th, deep", y -> y.pin(1, Check.nameOf(0, 91), true, true), false);
        full.refused("the 9th, of a block that is pinned otherwise", y -> y.pin(1, leaf(0), false, true), false);
        full.refused("one of the 8 again", y -> y.pin(1, leaf(0), true, true), false);
        full.refused("the 9th taken away", y -> y.pin(1, Check.nameOf(0, 91), false, false), false);
    }

    private static void eightPinsInEachStore() {
        check.about("A store's PINS, at most 8");
        BlockExchange x = new BlockExchange();
        for (int store = 0; store < 3; store++) {
            pins(x, store, 8);
            check.put(x, store, 0, 90);
            check.due("the 9th", x.pin(store, Check.nameOf(0, 90), true, true), false);
        }
        for (int store = 0; store < 3; store++) {
            check.due("collect", x.collect(store), 1);
            check.due("blocks", x.blocks(store), 8);
        }
    }

    private static void pinnedSoAlready() {
        check.about("pin: False, refused, if on, it is pinned so already");
        Still still = Still.busy(check);
        still.refused("deep again", x -> x.pin(0, Still.TREE, true, true), false);
        still.refused("plain again", x -> x.pin(0, Still.A, false, true), false);
        BlockExchange x = new BlockExchange();
        Still.makeBusy(check, x);
        check.due("plain too", x.pin(0, Still.TREE, false, true), true);
        check.due("deep too", x.pin(0, Still.A, true, true), true);
        check.due("the same block in another store", x.pin(1, Still.FOLDER, true, true), true);
    }

    private static void notPinnedSo() {
        check.about("pin: False, refused, if not on, it is not pinned so");
        Still still = Still.busy(check);
        still.refused("plain, pinned deep", x -> x.pin(0, Still.TREE, false, false), false);
        still.refused("deep, pinned plain", x -> x.pin(0, Still.A, true, false), false);
        still.refused("not pinned", x -> x.pin(0, Still.B, true, false), false);
        still.refused("not pinned", x -> x.pin(0, Still.B, false, false), false);
        still.refused("not there", x -> x.pin(0, 77, true, false), false);
        still.refused("no name", x -> x.pin(0, -1, true, false), false);
        still.refused("0, which an unused pin might be", x -> x.pin(0, 0, false, false), false);
        still.refused("pinned in another store", x -> x.pin(2, Still.TREE, true, false), false);
        BlockExchange x = new BlockExchange();
        Still.makeBusy(check, x);
        check.due("deep", x.pin(0, Still.TREE, true, false), true);
        check.due("deep again", x.pin(0, Still.TREE, true, false), false);
        check.due("plain", x.pin(0, Still.A, false, false), true);
        check.due("plain again", x.pin(0, Still.A, false, false), false);
    }

    private static void onAndOffAgain() {
        check.about("Pins a block (on), deep or not, or takes that pin away.");
        Still still = Still.busy(check);
        for (boolean deep : new boolean[] {false, true}) {
            still.alike("on and off", x -> {
                check.due("on", x.pin(0, Still.B, deep, true), true);
                check.due("off", x.pin(0, Still.B, deep, false), true);
            }, x -> { });
        }
        still.alike("off and on", x -> {
            check.due("off", x.pin(0, Still.TREE, true, false), true);
            check.due("on", x.pin(0, Still.TREE, true, true), true);
        }, x -> { });
        still.alike("collect twice", x -> {
            check.due("collect", x.collect(0), 1);
            check.due("collect", x.collect(0), 0);
        }, x -> check.due("collect", x.collect(0), 1));
        still.alike("collect where all is kept", x -> check.due("collect", x.collect(1), 0), x -> { });
        still.alike("collect where nothing is", x -> check.due("collect", x.collect(2), 0), x -> { });
    }

    private static void deepAndNotAreTwoPins() {
        check.about("PINS, at most 8, are names, each DEEP or not");
        BlockExchange x = new BlockExchange();
        for (int i = 0; i < 4; i++) {
            int name = check.put(x, 0, 0, 30 + i);
            check.due("deep", x.pin(0, name, true, true), true);
            check.due("plain", x.pin(0, name, false, true), true);
        }
        int name = check.put(x, 0, 0, 90);
        check.due("a 9th", x.pin(0, name, true, true), false);
        check.due("take one of two away", x.pin(0, leaf(0), true, false), true);
        check.due("collect", x.collect(0), 1);
        check.due("the other one keeps it", x.bytes(0, leaf(0)), 2);
        check.due("take the other one away", x.pin(0, leaf(0), false, false), true);
        check.due("collect", x.collect(0), 1);
        check.due("it is gone", x.bytes(0, leaf(0)), -1);
    }

    private static void aPinTakenAwayMakesRoom() {
        check.about("or takes that pin away; 8 pins are there");
        for (int out = 0; out < 8; out++) {
            BlockExchange x = new BlockExchange();
            pins(x, 2, 8);
            check.put(x, 2, 0, 90);
            int name = Check.nameOf(0, 90);
            check.due("the 9th", x.pin(2, name, false, true), false);
            check.due("take away", x.pin(2, leaf(out), out % 2 == 0, false), true);
            check.due("an 8th again", x.pin(2, name, false, true), true);
            check.due("a 9th again", x.pin(2, leaf(out), out % 2 == 0, true), false);
            check.due("collect", x.collect(2), 1);
            for (int i = 0; i < 8; i++) {
                check.due("bytes", x.bytes(2, leaf(i)), i == out ? -1 : 2);
            }
            check.due("bytes", x.bytes(2, name), 2);
        }
    }

    private static void collectInNoStore() {
        check.about("collect: -1 if there is no such store");
        Still still = Still.busy(check);
        for (int store : NO_STORES) {
            still.refused("collect(" + store + ")", x -> x.collect(store), -1);
        }
        BlockExchange x = new BlockExchange();
        for (int store = 0; store < 3; store++) {
            check.put(x, store, 0, 1);
            check.due("collect(" + store + ")", x.collect(store), 1);
        }
    }

    private static void collectOfNothingAndOfAll() {
        check.about("All blocks of a store that are not kept are gone: how many");
        BlockExchange x = new BlockExchange();
        check.due("an empty store", x.collect(0), 0);
        check.put(x, 0, 0);
        check.due("one block", x.collect(0), 1);
        check.due("blocks", x.blocks(0), 0);
        check.due("an empty store", x.collect(0), 0);
        check.fillTo(x, 0, 64);
        check.due("a full store", x.collect(0), 64);
        check.due("blocks", x.blocks(0), 0);
        check.due("bytes", x.bytes(0, Check.nameOf(0, 13)), -1);
        check.fillTo(x, 0, 64);
        check.due("pin one", x.pin(0, Check.nameOf(0, 13), false, true), true);
        check.due("a full store but for one", x.collect(0), 63);
        check.due("nothing is left to collect", x.collect(0), 0);
        check.hasBlock(x, 0, 0, 13);
        check.due("blocks", x.blocks(0), 1);
    }

    private static void aPlainPinKeepsOneBlock() {
        check.about("KEPT are the pinned blocks that are there");
        int[][] rows = {
            Check.tree(1, Still.A, 1, Still.B), Check.folder(1, Still.A, 2, Still.B), Check.shard(3, Still.A, Still.B)
        };
        for (int[] row : rows) {
            BlockExchange x = new BlockExchange();
            check.put(x, 0, 0, 1);
            check.put(x, 0, 0, 2);
            int name = check.put(x, 0, row);
            check.due("pin", x.pin(0, name, false, true), true);
            check.due("collect", x.collect(0), 2);
            check.hasBlock(x, 0, row);
        }
    }

    private static void aBlockIsUnderItself() {
        check.about("a block is under itself");
        int[][] rows = {{0}, {0, 1}, {2, 0}, Check.tree(1, 5), Check.folder(1, 5), Check.shard(1, 5)};
        for (int[] row : rows) {
            BlockExchange x = new BlockExchange();
            int name = check.put(x, 0, row);
            check.put(x, 0, 0, 99);
            check.due("pin", x.pin(0, name, true, true), true);
            check.due("collect", x.collect(0), 1);
            check.hasBlock(x, 0, row);
        }
    }

    private static void everyLinkOfADeepOne() {
        check.about("what a block that is under it and there links to is, too");
        for (int links = 1; links <= 4; links++) {
            for (int form = 1; form <= 3; form++) {
                BlockExchange x = new BlockExchange();
                int[] row = form == 3 ? new int[links] : new int[2 * links];
                for (int i = 0; i < links; i++) {
                    int leaf = check.put(x, 0, 0, i);
                    row[form == 3 ? i : 2 * i + 1] = leaf;
                    if (form < 3) {
                        row[2 * i] = 1 + i;
                    }
                }
                check.put(x, 0, 0, 99);
                int name = check.put(x, 0, form == 1 ? Check.tree(row)
                        : form == 2 ? Check.folder(row) : Check.shard((1 << links) - 1, row));
                check.due("pin", x.pin(0, name, true, true), true);
                check.due("collect", x.collect(0), 1);
                check.due("blocks", x.blocks(0), links + 1);
            }
        }
    }

    /** A chain as long as a store is large; reading ends after 10 links, finding after 4, but this does not. */
    private static void underADeepOneWithoutEnd() {
        check.about("what a block that is under it and there links to is, too; A store has at most 64 blocks");
        BlockExchange x = new BlockExchange();
        int name = check.put(x, 0, 0, 1);
        for (int i = 1; i < 64; i++) {
            check.type(x, Check.shard(1, name));
            name = x.put(0);
        }
        check.due("blocks", x.blocks(0), 64);
        check.due("pin", x.pin(0, name, true, true), true);
        check.due("collect", x.collect(0), 0);
        check.hasBlock(x, 0, 0, 1);
        check.due("fetch of the chain", x.fetch(0, 1, name), 0);
        check.due("state", x.state(0), 2);
        check.due("unpin", x.pin(0, name, true, false), true);
        check.due("pin the leaf", x.pin(0, Check.nameOf(0, 1), true, true), true);
        check.due("collect", x.collect(0), 63);
    }

    private static void notBehindWhatIsNotThere() {
        check.about("what a block that is under it and there links to is, too");
        BlockExchange x = new BlockExchange();
        int leaf = check.put(x, 0, 0, 1);
        int[] inner = Check.tree(1, leaf);
        int root = check.put(x, 0, Check.tree(1, Check.nameOf(inner)));
        check.put(x, 1, inner);
        check.due("pin", x.pin(0, root, true, true), true);
        check.due("collect: what links the leaf is not there", x.collect(0), 1);
        check.due("bytes", x.bytes(0, leaf), -1);
        check.put(x, 0, 0, 1);
        check.put(x, 0, inner);
        check.due("collect: it is there", x.collect(0), 0);
    }

    private static void plainAndDeepTogether() {
        check.about("KEPT are the pinned blocks that are there and what is UNDER deep ones");
        // In either order a plain pin on the way takes nothing from the deep one.
        for (int order = 0; order < 2; order++) {
            BlockExchange x = new BlockExchange();
            int leaf = check.put(x, 0, 0, 1);
            int inner = check.put(x, 0, Check.tree(1, leaf));
            int root = check.put(x, 0, Check.tree(1, inner));
            int stray = check.put(x, 0, 0, 2);
            check.due("pin", x.pin(0, order == 0 ? inner : root, order == 1, true), true);
            check.due("pin", x.pin(0, order == 0 ? root : inner, order == 0, true), true);
            check.due("collect", x.collect(0), 1);
            check.due("the stray one is gone", x.bytes(0, stray), -1);
            check.due("the leaf is kept", x.bytes(0, leaf), 2);
            check.due("take the deep one away", x.pin(0, root, true, false), true);
            check.due("collect", x.collect(0), 2);
            check.due("the inner one is kept", x.bytes(0, inner), 6);
        }
        // A block that is pinned both ways.
        BlockExchange y = new BlockExchange();
        check.put(y, 0, 0, 1);
        int tree = check.put(y, 0, Check.tree(1, Still.A));
        check.due("plain", y.pin(0, tree, false, true), true);
        check.due("deep", y.pin(0, tree, true, true), true);
        check.due("collect", y.collect(0), 0);
    }

    private static void ringsAreKept() {
        check.about("a block is under itself, and what a block that is under it and there links to is, too");
        for (int size = 1; size < 65536; size++) {
            for (int link = size % 5; link < 65521; link += 5) {
                int[] row = Check.tree(size, link);
                if (Check.nameOf(row) == link) {
                    BlockExchange x = new BlockExchange();
                    check.put(x, 0, row);
                    check.due("collect of a ring without a pin", x.collect(0), 1);
                    check.put(x, 0, row);
                    check.due("pin", x.pin(0, link, true, true), true);
                    check.due("collect of a ring", x.collect(0), 0);
                    return;
                }
            }
        }
        check.due("a ring was found", 0, 1);
    }

    private static void aRunningFetchKeeps() {
        check.about("While a store's fetch is RUNNING, it keeps what is under the fetch's ROOT as well.");
        BlockExchange x = new BlockExchange();
        check.put(x, 0, 0, 1);
        int inner = check.put(x, 0, Check.tree(1, Still.A));
        int root = check.put(x, 0, Check.tree(1, inner, 1, Still.B));
        check.put(x, 0, 0, 3);
        check.put(x, 0, 0, 4);
        check.due("pin", x.pin(0, Still.C, false, true), true);
        check.due("fetch", x.fetch(0, 1, root), 1);
        check.due("collect", x.collect(0), 1);
        check.due("the root", x.bytes(0, root), 10);
        check.due("what is under it", x.bytes(0, inner), 6);
        check.due("what is further under it", x.bytes(0, Still.A), 2);
        check.due("what is pinned", x.bytes(0, Still.C), 2);
        check.due("what is neither", x.bytes(0, Check.nameOf(0, 4)), -1);
        check.due("state", x.state(0), 1);
        check.due("retry", x.retry(0), 1);
        check.due("a fetch of something else, in its place", x.fetch(0, 1, 77), 1);
        check.due("collect", x.collect(0), 3);
        check.due("blocks", x.blocks(0), 1);
    }

    private static void aFetchWhoseRootIsMissingKeepsNothing() {
        check.about("While a store's fetch is RUNNING, it keeps what is under the fetch's ROOT as well.");
        BlockExchange x = new BlockExchange();
        check.put(x, 0, 0, 1);
        check.put(x, 1, Check.tree(1, Still.A));
        check.due("fetch", x.fetch(0, 1, Check.nameOf(Check.tree(1, Still.A))), 1);
        check.due("collect", x.collect(0), 1);
        check.due("state", x.state(0), 1);
    }

    private static void doneAndFailedFetchesKeepNothing() {
        check.about("While a store's fetch is RUNNING");
        BlockExchange x = new BlockExchange();
        check.put(x, 0, 0, 1);
        int root = check.put(x, 0, Check.tree(1, Still.A));
        check.due("fetch", x.fetch(0, 1, root), 0);
        check.due("done", x.state(0), 2);
        check.due("collect", x.collect(0), 2);
        check.put(x, 0, Check.tree(1, Still.A));
        check.due("fetch", x.fetch(0, 1, root), 1);
        check.due("collect while it runs", x.collect(0), 0);
        check.due("WANT", x.deliver(0), 0);
        check.due("NONE", x.deliver(0), 2);
        check.due("failed", x.state(0), 3);
        check.due("collect", x.collect(0), 1);
    }

    private static void pinsAndFetchesOfOtherStores() {
        check.about("A store's PINS; While a store's fetch is RUNNING, it keeps");
        BlockExchange x = new BlockExchange();
        for (int store = 0; store < 3; store++) {
            check.put(x, store, Check.tree(1, Still.A));
        }
        int root = Check.nameOf(Check.tree(1, Still.A));
        check.due("fetch of store 1", x.fetch(1, 0, root), 1);
        check.due("pin of store 2", x.pin(2, root, true, true), true);
        check.due("collect(0), the peer", x.collect(0), 1);
        check.due("collect(1)", x.collect(1), 0);
        check.due("collect(2)", x.collect(2), 0);
    }

    private static void collectLeavesTheRest() {
        check.about("All blocks of a store that are not kept are gone");
        BlockExchange x = new BlockExchange();
        Still.makeBusy(check, x);
        check.due("collect", x.collect(0), 1);
        check.due("name", x.name(), Still.BUFFER);
        check.due("waiting", x.waiting(), 3);
        check.due("a GIVE of it", x.message(1, 3), Still.TREE);
        check.due("state", x.state(0), 2);
        check.due("state", x.state(1), 1);
        check.due("blocks", x.blocks(1), 2);
        check.due("collect", x.collect(1), 0);
        check.due("unpin", x.pin(0, Still.TREE, true, false), true);
        check.due("unpin", x.pin(0, Still.A, false, false), true);
        check.due("unpin", x.pin(1, Still.C, true, false), true);
        check.due("folder", x.folder(2), Check.nameOf(Check.folder(3, Still.A, 200, Still.TREE)));
    }

    private static void roomAfterCollect() {
        check.about("A store has at most 64 blocks; All blocks of a store that are not kept are gone");
        BlockExchange x = new BlockExchange();
        check.fillTo(x, 0, 64);
        check.due("no room", check.tryPut(x, 0, 0, 201), -3);
        for (int i = 0; i < 8; i++) {
            check.due("pin", x.pin(0, Check.nameOf(0, i), false, true), true);
        }
        check.due("collect", x.collect(0), 56);
        for (int i = 0; i < 56; i++) {
            check.type(x, 0, 132 + i);
            x.put(0);
        }
        check.due("blocks", x.blocks(0), 64);
        check.due("no room", check.tryPut(x, 0, 0, 201), -3);
        check.hasBlock(x, 0, 0, 7);
        check.hasBlock(x, 0, 0, 132);
        check.hasBlock(x, 0, 0, 187);
    }
}
