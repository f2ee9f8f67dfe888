import java.util.function.Consumer;

/** The edges of fetches: promises 17 (fetch), 18 (retry), 19 (deliver) and 23 (state), and the order of the walk. */
public final class FetchEdgesTest {
    private static final Check check = new Check("FetchEdgesTest");
    private static final int[] NO_STORES = {-1, 3, 4, Integer.MIN_VALUE, Integer.MAX_VALUE};
    private static final int A = Still.A;
    private static final int B = Still.B;
    private static final int C = Still.C;

    public static void main(String[] args) {
        fetchOfNoStore();
        fetchFromItself();
        fetchOfNoName();
        fetchOfNothingMissing();
        fetchOfAMissingRoot();
        fetchOfWhatIsMissingUnderIt();
        fetchInPlaceOfAnother();
        retryOfNoStore();
        retryWhenNotRunning();
        retryOfARunningOne();
        stateOfEachStore();
        doneByFetch();
        doneByPut();
        doneByAdd();
        doneByFolder();
        doneByDeliver();
        otherCallsSendNothing();
        doneStaysDone();
        failedStaysFailed();
        theWalkTakesLinksInOrder();
        theWalkGoesDownFirst();
        theWalkTakesEachNameOnce();
        theWalkEndsInRings();
        theMostMissingNames();
        wantOfABlockThatIsThere();
        wantOfABlockThatIsNotThere();
        noneThatFails();
        noneWhenNotRunning();
        noneFromAnotherStore();
        noneOfANameThatIsNotMissing();
        giveThatComesIn();
        giveWhenNotRunning();
        giveFromAnotherStore();
        giveOfANameThatIsNotMissing();
        giveOfNoBlock();
        giveOfAnotherMissingBlock();
        giveWithAndWithoutRoom();
        giveAsksForNewNamesAlone();
        giveAsksInTheOrderOfTheWalk();
        otherNonesChangeNothing();
        otherGivesChangeNothing();
        wantsAloneChangeNoStore();
        check.end();
    }

    private static void line(BlockExchange x, int from, int to, int... names) {
        check.due("waiting", x.waiting(), names.length);
        for (int k = 0; k < names.length; k++) {
            check.due("kind of " + k, x.message(k, 0), 0);
            check.due("sender of " + k, x.message(k, 1), from);
            check.due("receiver of " + k, x.message(k, 2), to);
            check.due("name of " + k, x.message(k, 3), names[k]);
        }
    }

    private static void fetchOfNoStore() {
        check.about("fetch: -1, refused, if a number is no store");
        Still still = Still.busy(check);
        for (int store : NO_STORES) {
            still.refused("fetch(" + store + ", 0, A)", x -> x.fetch(store, 0, A), -1);
            still.refused("fetch(1, " + store + ", A)", x -> x.fetch(1, store, A), -1);
            still.refused("fetch of twice the same", x -> x.fetch(store, store, A), -1);
        }
        for (int store = 0; store < 3; store++) {
            for (int peer = 0; peer < 3; peer++) {
                if (store != peer) {
                    BlockExchange x = new BlockExchange();
                    check.due("fetch", x.fetch(store, peer, 5), 1);
                    line(x, store, peer, 5);
                    check.due("state", x.state(store), 1);
                    check.due("state of the peer", x.state(peer), 0);
                }
            }
        }
    }

    private static void fetchFromItself() {
        check.about("fetch: -1, refused, if both are the same");
        Still still = Still.busy(check);
        for (int store = 0; store < 3; store++) {
            int both = store;
            still.refused("fetch of 77", x -> x.fetch(both, both, 77), -1);
            still.refused("fetch of what is there", x -> x.fetch(both, both, Still.FOLDER), -1);
        }
    }

    private static void fetchOfNoName() {
        check.about("fetch: -1, refused, if name is not 0 .. 65520");
        Still still = Still.busy(check);
        for (int name : new int[] {-1, 65521, 65535, 65536, A + 65521, Integer.MIN_VALUE, Integer.MAX_VALUE}) {
            still.refused("fetch of " + name, x -> x.fetch(1, 0, name), -1);
            still.refused("fetch of " + name, x -> x.fetch(0, 1, name), -1);
        }
        BlockExchange x = new BlockExchange();
        check.due("fetch of 0", x.fetch(0, 1, 0), 1);
        check.due("fetch of 65520", x.fetch(1, 0, 65520), 1);
        check.due("name", x.message(0, 3), 0);
        check.due("name", x.message(1, 3), 65520);
    }

    private static void fetchOfNothingMissing() {
        check.about("How many names are missing; As soon as nothing is missing for a running fetch it is DONE");
        BlockExchange x = new BlockExchange();
        check.put(x, 0, 0, 1);
        check.due("fetch of a leaf", x.fetch(0, 1, A), 0);
        check.due("state", x.state(0), 2);
        check.due("waiting", x.waiting(), 0);
        int folder = check.put(x, 0, 2, 0);
        check.due("fetch of a folder without links", x.fetch(0, 2, folder), 0);
        check.due("state", x.state(0), 2);
        int root = check.put(x, 0, Check.shard(9, folder, A));
        check.due("fetch of a shard", x.fetch(0, 2, root), 0);
        check.due("state", x.state(0), 2);
        check.due("waiting", x.waiting(), 0);
    }

    private static void fetchOfAMissingRoot() {
        check.about("it sends a WANT for each missing name (the root, or what is missing under it)");
        BlockExchange x = new BlockExchange();
        check.put(x, 1, 0, 1);
        check.put(x, 2, 0, 1);
        check.due("fetch", x.fetch(0, 2, A), 1);
        line(x, 0, 2, A);
        check.due("state", x.state(0), 1);
        check.due("blocks", x.blocks(0), 0);
    }

    private static void fetchOfWhatIsMissingUnderIt() {
        check.about("it sends a WANT for each missing name (the root, or what is missing under it)");
        BlockExchange x = new BlockExchange();
        check.put(x, 0, 0, 1);
        int root = check.put(x, 0, Check.tree(1, B, 1, A, 1, C));
        check.due("fetch", x.fetch(0, 1, root), 2);
        line(x, 0, 1, B, C);
        check.due("state", x.state(0), 1);
    }

    private static void fetchInPlaceOfAnother() {
        check.about("A new fetch of a store, in place of the one that was there, running or done");
        BlockExchange x = new BlockExchange();
        check.put(x, 0, 0, 1);
        check.due("fetch", x.fetch(0, 1, 11), 1);
        check.due("in place of a running one", x.fetch(0, 2, 12), 1);
        check.due("retry", x.retry(0), 1);
        check.due("the peer is the new one", x.message(2, 2), 2);
        check.due("the root is the new one", x.message(2, 3), 12);
        check.due("done at once, in place of a running one", x.fetch(0, 1, A), 0);
        check.due("state", x.state(0), 2);
        check.due("in place of a done one", x.fetch(0, 1, 13), 1);
        check.due("state", x.state(0), 1);
        check.due("WANT", x.deliver(3), 0);
        check.due("NONE", x.deliver(3), 2);
        check.due("state", x.state(0), 3);
        check.due("in place of a failed one", x.fetch(0, 2, 14), 1);
        check.due("state", x.state(0), 1);
        check.due("the same once more", x.fetch(0, 2, 14), 1);
        check.due("state", x.state(0), 1);
        check.due("waiting", x.waiting(), 5);
    }

    private static void retryOfNoStore() {
        check.about("retry: -1, refused, if there is no such store");
        Still still = Still.busy(check);
        for (int store : NO_STORES) {
            still.refused("retry(" + store + ")", x -> x.retry(store), -1);
        }
    }

    private static void retryWhenNotRunning() {
        check.about("retry: -1, refused, if the store's fetch is not running");
        new Still(check, x -> { }).refused("retry without a fetch", x -> x.retry(0), -1);
        Still done = Still.busy(check, x -> check.due("state", x.state(0), 2));
        done.refused("retry of a done one", x -> x.retry(0), -1);
        // Done, and what was fetched is gone.
        Still gone = Still.busy(check, x -> check.due("collect", x.collect(0), 1));
        gone.refused("retry of a done one", x -> x.retry(0), -1);
        Still failed = Still.busy(check, x -> {
            x.deliver(2);
            check.due("state", x.state(2), 3);
        });
        failed.refused("retry of a failed one", x -> x.retry(2), -1);
    }

    private static void retryOfARunningOne() {
        check.about("A running fetch sends a WANT again for each missing name, in the order of the walk: how many");
        BlockExchange x = new BlockExchange();
        int root = check.put(x, 0, Check.tree(1, B, 1, 11, 1, 10));
        check.due("fetch", x.fetch(0, 2, root), 3);
        check.due("retry", x.retry(0), 3);
        line(x, 0, 2, B, 11, 10, B, 11, 10);
        check.put(x, 0, 0, 2);
        check.due("retry", x.retry(0), 2);
        line(x, 0, 2, B, 11, 10, B, 11, 10, 11, 10);
        check.due("state", x.state(0), 1);
    }

    private static void stateOfEachStore() {
        check.about("state: 0 none, 1 running, 2 done, 3 failed; -1 if there is no such store.");
        BlockExchange x = new BlockExchange();
        for (int store = 0; store < 3; store++) {
            int peer = (store + 1) % 3;
            check.due("none", x.state(store), 0);
            check.due("fetch", x.fetch(store, peer, 5), 1);
            check.due("running", x.state(store), 1);
            x.deliver(0);
            check.due("running", x.state(store), 1);
            x.deliver(0);
            check.due("failed", x.state(store), 3);
        }
        for (int store = 0; store < 3; store++) {
            check.put(x, store, 0, 1);
            check.due("fetch", x.fetch(store, (store + 2) % 3, A), 0);
            check.due("done", x.state(store), 2);
        }
        Still still = Still.busy(check);
        for (int store : NO_STORES) {
            still.refused("state(" + store + ")", y -> y.state(store), -1);
        }
    }

    private static void doneByFetch() {
        check.about("As soon as nothing is missing for a running fetch, whatever call brings that about, it is DONE (fetch)");
        BlockExchange x = new BlockExchange();
        check.put(x, 0, 0, 1);
        int root = check.put(x, 0, Check.tree(1, A, 1, B));
        check.due("one is missing", x.fetch(0, 1, root), 1);
        check.due("state", x.state(0), 1);
        check.due("none is missing", x.fetch(0, 1, A), 0);
        check.due("state", x.state(0), 2);
    }

    private static void doneByPut() {
        check.about("As soon as nothing is missing for a running fetch, whatever call brings that about, it is DONE (put)");
        BlockExchange x = new BlockExchange();
        int root = check.put(x, 0, Check.tree(1, A, 1, B));
        check.due("fetch", x.fetch(0, 1, root), 2);
        check.put(x, 0, 0, 1);
        check.due("one is missing", x.state(0), 1);
        check.put(x, 1, 0, 2);
        check.due("it is in another store", x.state(0), 1);
        check.put(x, 0, 0, 2);
        check.due("none is missing", x.state(0), 2);
        // The root itself, with links that are there or not.
        BlockExchange y = new BlockExchange();
        check.put(y, 0, 0, 1);
        check.due("fetch", y.fetch(0, 1, Check.nameOf(Check.tree(1, A))), 1);
        check.put(y, 0, Check.tree(1, A));
        check.due("state", y.state(0), 2);
        check.due("fetch", y.fetch(0, 1, Check.nameOf(Check.tree(1, B))), 1);
        check.put(y, 0, Check.tree(1, B));
        check.due("state", y.state(0), 1);
        // A refused put does not.
        BlockExchange z = new BlockExchange();
        check.due("fetch", z.fetch(0, 1, A), 1);
        check.type(z, 0, 1);
        check.due("put in no store", z.put(3), -1);
        check.due("state", z.state(0), 1);
        check.due("put", z.put(0), A);
        check.due("state", z.state(0), 2);
    }

    private static void doneByAdd() {
        check.about("As soon as nothing is missing for a running fetch, whatever call brings that about, it is DONE (add)");
        int tree = Check.nameOf(Check.tree(1, A, 1, B));
        BlockExchange x = new BlockExchange();
        check.due("fetch", x.fetch(0, 1, tree), 1);
        check.type(x, 1, 2);
        check.due("add of one leaf", x.add(0, 2, 2), Check.nameOf(0, 1, 2));
        check.due("state", x.state(0), 1);
        check.type(x, 1, 2);
        check.due("add of the whole", x.add(0, 1, 2), tree);
        check.due("state", x.state(0), 2);
        BlockExchange y = new BlockExchange();
        check.put(y, 0, Check.folder(1, tree, 2, C));
        check.due("fetch", y.fetch(0, 1, Check.nameOf(Check.folder(1, tree, 2, C))), 2);
        check.type(y, 1, 2);
        check.due("add", y.add(0, 1, 2), tree);
        check.due("one is missing", y.state(0), 1);
        check.type(y, 3);
        check.due("add", y.add(0, 1, 2), C);
        check.due("none is missing", y.state(0), 2);
    }

    private static void doneByFolder() {
        check.about("As soon as nothing is missing for a running fetch, whatever call brings that about, it is DONE (folder)");
        int folder = Check.nameOf(Check.folder(5, A));
        BlockExchange x = new BlockExchange();
        check.due("fetch", x.fetch(0, 1, folder), 1);
        x.entry(5, A);
        check.due("folder in another store", x.folder(2), folder);
        check.due("state", x.state(0), 1);
        x.entry(5, A);
        check.due("folder, a link of which is missing", x.folder(0), folder);
        check.due("state", x.state(0), 1);
        check.put(x, 0, 0, 1);
        check.due("state", x.state(0), 2);
        BlockExchange y = new BlockExchange();
        check.put(y, 0, 0, 1);
        check.due("fetch", y.fetch(0, 1, folder), 1);
        y.entry(5, A);
        check.due("folder", y.folder(0), folder);
        check.due("state", y.state(0), 2);
    }

    private static void doneByDeliver() {
        check.about("As soon as nothing is missing for a running fetch, whatever call brings that about, it is DONE (deliver)");
        BlockExchange x = new BlockExchange();
        check.put(x, 1, 0, 1);
        check.put(x, 1, 0, 2);
        int root = check.put(x, 0, Check.tree(1, A, 1, B));
        check.due("fetch", x.fetch(0, 1, root), 2);
        x.deliver(0);
        x.deliver(0);
        check.due("GIVE", x.deliver(1), 1);
        check.due("one is missing", x.state(0), 1);
        check.due("GIVE", x.deliver(0), 1);
        check.due("none is missing", x.state(0), 2);
        check.due("waiting", x.waiting(), 0);
    }

    private static void otherCallsSendNothing() {
        check.about("then a WANT is sent for each name that is missing now and was not before (by a GIVE alone)");
        BlockExchange x = new BlockExchange();
        int tree = Check.nameOf(Check.tree(1, A, 1, B));
        check.due("fetch", x.fetch(0, 1, tree), 1);
        check.put(x, 0, Check.tree(1, A, 1, B));
        line(x, 0, 1, tree);
        check.due("state", x.state(0), 1);
        check.due("retry", x.retry(0), 2);
        line(x, 0, 1, tree, A, B);
    }

    private static void doneStaysDone() {
        check.about("done and failed ones stay so until the store's next fetch (done)");
        BlockExchange x = new BlockExchange();
        check.due("fetch of nothing there", x.fetch(0, 1, A), 1);
        check.due("retry", x.retry(0), 1);
        check.due("WANT", x.deliver(0), 0);
        check.put(x, 0, 0, 1);
        check.due("done", x.state(0), 2);
        check.due("collect", x.collect(0), 1);
        check.due("what is gone is not missing again", x.state(0), 2);
        check.due("retry", x.retry(0), -1);
        check.due("NONE", x.deliver(1), 2);
        check.due("a NONE does not make it fail", x.state(0), 2);
        check.put(x, 1, 0, 1);
        check.due("WANT", x.deliver(0), 0);
        check.due("GIVE", x.deliver(0), 1);
        check.due("a GIVE does not come in", x.blocks(0), 0);
        check.due("state", x.state(0), 2);
        check.due("the next fetch", x.fetch(0, 1, A), 1);
        check.due("state", x.state(0), 1);
    }

    private static void failedStaysFailed() {
        check.about("done and failed ones stay so until the store's next fetch (failed)");
        BlockExchange x = new BlockExchange();
        check.due("fetch", x.fetch(0, 1, A), 1);
        check.due("retry", x.retry(0), 1);
        check.due("WANT", x.deliver(0), 0);
        check.due("NONE", x.deliver(1), 2);
        check.due("failed", x.state(0), 3);
        check.put(x, 1, 0, 1);
        check.due("WANT", x.deliver(0), 0);
        check.due("GIVE", x.deliver(0), 1);
        check.due("a GIVE does not come in", x.blocks(0), 0);
        check.due("state", x.state(0), 3);
        check.put(x, 0, 0, 1);
        check.due("put does not make it done", x.state(0), 3);
        check.due("retry", x.retry(0), -1);
        check.due("collect", x.collect(0), 1);
        check.due("state", x.state(0), 3);
        check.put(x, 0, 0, 1);
        check.due("the next fetch", x.fetch(0, 1, A), 0);
        check.due("state", x.state(0), 2);
    }

    private static void theWalkTakesLinksInOrder() {
        check.about("A WALK of missing names: from the root, each link of a block before the next one");
        int[][] rows = {
            Check.tree(9, 44, 8, 11, 7, 33, 6, 22), Check.folder(1, 44, 2, 11, 3, 33, 4, 22), Check.shard(15, 44, 11, 33, 22)
        };
        for (int[] row : rows) {
            BlockExchange x = new BlockExchange();
            check.due("fetch", x.fetch(0, 1, check.put(x, 0, row)), 4);
            line(x, 0, 1, 44, 11, 33, 22);
        }
        BlockExchange x = new BlockExchange();
        check.due("fetch", x.fetch(0, 1, check.put(x, 0, Check.shard(10, 65520, 0))), 2);
        line(x, 0, 1, 65520, 0);
    }

    private static void theWalkGoesDownFirst() {
        check.about("what is under the first link before the second one");
        BlockExchange x = new BlockExchange();
        int low = check.put(x, 0, Check.shard(3, 15, 14));
        int middle = check.put(x, 0, Check.folder(8, 16, 9, low, 10, 13));
        int right = check.put(x, 0, Check.tree(1, 11));
        int root = check.put(x, 0, Check.tree(1, middle, 1, 12, 1, right, 1, 10));
        check.due("fetch", x.fetch(0, 2, root), 7);
        line(x, 0, 2, 16, 15, 14, 13, 12, 11, 10);
    }

    private static void theWalkTakesEachNameOnce() {
        check.about("each name once");
        BlockExchange x = new BlockExchange();
        check.due("fetch", x.fetch(0, 1, check.put(x, 0, Check.tree(1, 9, 2, 9, 3, 9, 4, 9))), 1);
        line(x, 0, 1, 9);
        // Missing under two links: where it is met first counts.
        BlockExchange y = new BlockExchange();
        int first = check.put(y, 0, Check.tree(1, 21, 1, 22));
        int second = check.put(y, 0, Check.tree(1, 22, 1, 23, 1, 21));
        check.due("fetch", y.fetch(0, 1, check.put(y, 0, Check.tree(1, first, 1, 23, 1, second))), 3);
        line(y, 0, 1, 21, 22, 23);
        // A block that is there and linked twice is gone through once.
        BlockExchange z = new BlockExchange();
        int tree = check.put(z, 0, Check.tree(1, 31, 1, 32));
        check.due("fetch", z.fetch(0, 1, check.put(z, 0, Check.shard(7, tree, 33, tree))), 3);
        line(z, 0, 1, 31, 32, 33);
        // A name that is linked early, but met further down before that, as the walk goes down first.
        BlockExchange w = new BlockExchange();
        int deep = check.put(w, 0, Check.tree(1, 42));
        check.due("fetch", w.fetch(0, 1, check.put(w, 0, Check.tree(1, deep, 1, 41, 1, 42))), 2);
        line(w, 0, 1, 42, 41);
        // A block that is linked again behind what is under it.
        BlockExchange v = new BlockExchange();
        int low = check.put(v, 0, Check.tree(1, 51));
        int mid = check.put(v, 0, Check.tree(1, 52, 1, low));
        check.due("fetch", v.fetch(0, 1, check.put(v, 0, Check.tree(1, mid, 1, low, 1, 53))), 3);
        line(v, 0, 1, 52, 51, 53);
    }

    private static void theWalkEndsInRings() {
        check.about("each name once (a block that links itself)");
        for (int title = 1; title < 256; title++) {
            for (int link = 0; link < 65521; link++) {
                int[] row = Check.folder(title, link);
                if (Check.nameOf(row) == link) {
                    BlockExchange x = new BlockExchange();
                    check.put(x, 0, row);
                    check.due("fetch where it is", x.fetch(0, 1, link), 0);
                    check.due("state", x.state(0), 2);
                    check.due("fetch where it is not", x.fetch(1, 0, link), 1);
                    x.deliver(0);
                    x.deliver(0);
                    check.due("state", x.state(1), 2);
                    check.due("waiting", x.waiting(), 0);
                    int root = check.put(x, 2, Check.shard(3, link, 77));
                    check.put(x, 2, row);
                    check.due("fetch of what links it", x.fetch(2, 0, root), 1);
                    line(x, 2, 0, 77);
                    return;
                }
            }
        }
        check.due("a ring was found", 0, 1);
    }

    /** 64 folders of four links each, 63 of which lead from one to the next: no store can miss more than 193 names. */
    private static void theMostMissingNames() {
        check.about("How many names are missing; A store has at most 64 blocks; or is lost if 24 wait");
        for (int next = 1; next <= 4; next += 3) {
            BlockExchange x = new BlockExchange();
            int root = 2000;
            for (int i = 0; i < 64; i++) {
                for (int title = 1; title <= 4; title++) {
                    x.entry(title, title == next ? root : 3000 + 4 * i + title);
                }
                root = x.folder(0);
            }
            check.due("blocks", x.blocks(0), 64);
            check.due("fetch", x.fetch(0, 1, root), 193);
            check.due("waiting", x.waiting(), 24);
            check.due("retry", x.retry(0), 193);
            check.due("waiting", x.waiting(), 24);
            // The first folder of the walk is the last that was made, and it goes down at once or at the end.
            check.due("the first name", x.message(0, 3), next == 1 ? 2000 : 3000 + 4 * 63 + 1);
            check.due("the last one that waits", x.message(23, 3), next == 1 ? 3000 + 4 * 7 + 3 : 3000 + 4 * 56 + 3);
            check.due("collect", x.collect(0), 0);
            check.due("state", x.state(0), 1);
            check.due("WANT", x.deliver(0), 0);
            check.due("NONE", x.deliver(23), 2);
            check.due("state", x.state(0), 3);
            check.due("collect when it has failed", x.collect(0), 64);
        }
    }

    private static void wantOfABlockThatIsThere() {
        check.about("When a WANT is delivered: if the peer has the block it sends a GIVE with its bytes (a copy)");
        int[][] rows = {{0}, Check.leaf(1, 2, 3, 4, 5, 6, 7, 8), {2, 0}, Check.tree(65535, 65520, 1, 0, 2, 1, 3, 2)};
        for (int[] row : rows) {
            BlockExchange x = new BlockExchange();
            int name = check.put(x, 2, row);
            check.due("fetch", x.fetch(1, 2, name), 1);
            check.due("WANT", x.deliver(0), 0);
            check.due("waiting", x.waiting(), 1);
            check.due("kind", x.message(0, 0), 1);
            check.due("sender", x.message(0, 1), 2);
            check.due("receiver", x.message(0, 2), 1);
            check.due("name", x.message(0, 3), name);
            check.due("collect at the peer", x.collect(2), 1);
            check.put(x, 2, 0, 200, 201);
            check.due("its bytes stay", x.message(0, 3), name);
            check.due("last byte", x.harm(0, row.length - 1, 256), true);
            check.due("behind the last byte", x.harm(0, row.length, 256), false);
            check.due("GIVE", x.deliver(0), 1);
            check.hasBlock(x, 1, row);
        }
    }

    private static void wantOfABlockThatIsNotThere() {
        check.about("When a WANT is delivered: else a NONE with the name");
        for (int name : new int[] {0, A, 65520}) {
            BlockExchange x = new BlockExchange();
            check.due("fetch", x.fetch(1, 2, name), 1);
            check.due("WANT", x.deliver(0), 0);
            check.due("kind", x.message(0, 0), 2);
            check.due("sender", x.message(0, 1), 2);
            check.due("receiver", x.message(0, 2), 1);
            check.due("name", x.message(0, 3), name);
            check.due("state", x.state(1), 1);
        }
        // What counts is what the peer has when the WANT is delivered.
        BlockExchange x = new BlockExchange();
        check.due("fetch", x.fetch(1, 2, A), 1);
        check.put(x, 2, 0, 1);
        check.due("retry", x.retry(1), 1);
        x.deliver(0);
        check.due("there by then", x.message(1, 0), 1);
        check.due("collect", x.collect(2), 1);
        x.deliver(0);
        check.due("gone by then", x.message(1, 0), 2);
    }

    /** Store 0 fetches A and B from 1, which has neither: a NONE of each waits. */
    private static void twoNones(BlockExchange x) {
        check.due("fetch", x.fetch(0, 1, check.put(x, 0, Check.tree(1, A, 1, B))), 2);
        check.due("WANT", x.deliver(0), 0);
        check.due("WANT", x.deliver(0), 0);
        check.due("waiting", x.waiting(), 2);
    }

    private static void noneThatFails() {
        check.about("When a NONE is delivered and its receiver's fetch is running, with the sender as its peer, and the name is missing: the fetch has FAILED.");
        for (int k = 0; k < 2; k++) {
            BlockExchange x = new BlockExchange();
            twoNones(x);
            check.due("NONE", x.deliver(k), 2);
            check.due("state", x.state(0), 3);
            check.due("waiting", x.waiting(), 1);
            check.due("blocks", x.blocks(0), 1);
        }
        // Of a newer fetch, too, if the name is missing for it and the peer is the same.
        BlockExchange x = new BlockExchange();
        twoNones(x);
        check.due("fetch", x.fetch(0, 1, B), 1);
        check.due("NONE of B", x.deliver(1), 2);
        check.due("state", x.state(0), 3);
    }

    private static void noneWhenNotRunning() {
        check.about("When a NONE is delivered and its receiver's fetch is running");
        // Done: the names have come in by other ways.
        BlockExchange x = new BlockExchange();
        twoNones(x);
        check.put(x, 0, 0, 1);
        check.put(x, 0, 0, 2);
        check.due("state", x.state(0), 2);
        check.due("NONE", x.deliver(0), 2);
        check.due("state", x.state(0), 2);
        // Done, and what came in is gone again.
        check.due("collect", x.collect(0), 3);
        check.due("NONE", x.deliver(0), 2);
        check.due("state", x.state(0), 2);
        // Failed already.
        BlockExchange y = new BlockExchange();
        twoNones(y);
        check.due("NONE", y.deliver(0), 2);
        check.due("NONE", y.deliver(0), 2);
        check.due("state", y.state(0), 3);
        check.due("waiting", y.waiting(), 0);
    }

    private static void noneFromAnotherStore() {
        check.about("When a NONE is delivered, with the sender as its peer");
        BlockExchange x = new BlockExchange();
        twoNones(x);
        int root = Check.nameOf(Check.tree(1, A, 1, B));
        check.due("fetch from 2", x.fetch(0, 2, root), 2);
        check.due("NONE from 1", x.deliver(0), 2);
        check.due("state", x.state(0), 1);
        check.due("fetch from 1", x.fetch(0, 1, root), 2);
        check.due("NONE from 1", x.deliver(0), 2);
        check.due("state", x.state(0), 3);
    }

    private static void noneOfANameThatIsNotMissing() {
        check.about("When a NONE is delivered, and the name is missing");
        BlockExchange x = new BlockExchange();
        twoNones(x);
        check.put(x, 0, 0, 1);
        check.due("NONE of what is there by now", x.deliver(0), 2);
        check.due("state", x.state(0), 1);
        check.due("NONE of what is missing", x.deliver(0), 2);
        check.due("state", x.state(0), 3);
        BlockExchange y = new BlockExchange();
        twoNones(y);
        check.due("fetch of something else", y.fetch(0, 1, C), 1);
        check.due("NONE of what is not under it", y.deliver(0), 2);
        check.due("state", y.state(0), 1);
        // The other stores' fetches want the name, but the NONE is not for them.
        BlockExchange z = new BlockExchange();
        twoNones(z);
        check.due("fetch", z.fetch(2, 1, A), 1);
        check.due("NONE", z.deliver(0), 2);
        check.due("state of its receiver", z.state(0), 3);
        check.due("state of the other one", z.state(2), 1);
    }

    /** Store 0 fetches the leaf A from 1, which has it: a GIVE waits. */
    private static void oneGive(BlockExchange x) {
        check.put(x, 1, 0, 1);
        check.due("fetch", x.fetch(0, 1, A), 1);
        check.due("WANT", x.deliver(0), 0);
        check.due("kind", x.message(0, 0), 1);
    }

    private static void giveThatComesIn() {
        check.about("When a GIVE is delivered, likewise, and the bytes are a block whose name is missing: it comes in");
        BlockExchange x = new BlockExchange();
        oneGive(x);
        check.due("GIVE", x.deliver(0), 1);
        check.hasBlock(x, 0, 0, 1);
        check.due("blocks", x.blocks(0), 1);
        check.due("state", x.state(0), 2);
        check.due("blocks of the peer", x.blocks(1), 1);
        check.due("blocks of the third", x.blocks(2), 0);
        // For a newer fetch from the same peer, too.
        BlockExchange y = new BlockExchange();
        oneGive(y);
        int root = check.put(y, 0, Check.tree(1, A, 1, B));
        check.due("fetch", y.fetch(0, 1, root), 2);
        check.due("GIVE", y.deliver(0), 1);
        check.due("blocks", y.blocks(0), 2);
        check.due("state", y.state(0), 1);
    }

    private static void giveWhenNotRunning() {
        check.about("When a GIVE is delivered, likewise (its receiver's fetch is running)");
        BlockExchange x = new BlockExchange();
        oneGive(x);
        check.due("fetch", x.fetch(0, 1, check.put(x, 0, 2, 0)), 0);
        check.due("state", x.state(0), 2);
        check.due("GIVE to a done one", x.deliver(0), 1);
        check.due("blocks", x.blocks(0), 1);
        check.due("bytes", x.bytes(0, A), -1);
        BlockExchange y = new BlockExchange();
        oneGive(y);
        check.due("fetch", y.fetch(0, 1, 77), 1);
        y.deliver(1);
        y.deliver(1);
        check.due("state", y.state(0), 3);
        check.due("GIVE to a failed one", y.deliver(0), 1);
        check.due("blocks", y.blocks(0), 0);
        check.due("state", y.state(0), 3);
    }

    private static void giveFromAnotherStore() {
        check.about("When a GIVE is delivered, likewise (with the sender as its peer)");
        BlockExchange x = new BlockExchange();
        oneGive(x);
        check.due("fetch from 2", x.fetch(0, 2, A), 1);
        check.due("GIVE from 1", x.deliver(0), 1);
        check.due("blocks", x.blocks(0), 0);
        check.due("state", x.state(0), 1);
        check.due("waiting", x.waiting(), 1);
        BlockExchange y = new BlockExchange();
        oneGive(y);
        check.due("fetch from 2", y.fetch(0, 2, A), 1);
        check.due("fetch from 1 again", y.fetch(0, 1, A), 1);
        check.due("GIVE from 1", y.deliver(0), 1);
        check.due("blocks", y.blocks(0), 1);
        check.due("state", y.state(0), 2);
    }

    private static void giveOfANameThatIsNotMissing() {
        check.about("When a GIVE is delivered, and the bytes are a block whose name is missing");
        BlockExchange x = new BlockExchange();
        oneGive(x);
        check.due("fetch of something else", x.fetch(0, 1, B), 1);
        check.due("GIVE of what is not under it", x.deliver(0), 1);
        check.due("blocks", x.blocks(0), 0);
        check.due("state", x.state(0), 1);
        line(x, 0, 1, B);
        // There already, with the same bytes and with others.
        BlockExchange y = new BlockExchange();
        oneGive(y);
        check.due("fetch", y.fetch(0, 1, check.put(y, 0, Check.tree(1, A, 1, B))), 2);
        check.put(y, 0, 0, 1);
        check.due("GIVE of what is there", y.deliver(0), 1);
        check.due("blocks", y.blocks(0), 2);
        check.due("state", y.state(0), 1);
        BlockExchange z = new BlockExchange();
        int[] row = Check.leaf(0, 0, 7);
        int name = check.put(z, 1, row);
        check.due("fetch", z.fetch(0, 1, check.put(z, 0, Check.tree(3, name, 1, B))), 2);
        check.due("WANT", z.deliver(0), 0);
        check.put(z, 0, Check.twin(row, 1));
        check.due("GIVE of other bytes of a name that is there", z.deliver(1), 1);
        check.hasBlock(z, 0, Check.twin(row, 1));
        check.due("blocks", z.blocks(0), 2);
        check.due("state", z.state(0), 1);
        line(z, 0, 1, B);
    }

    private static void giveOfNoBlock() {
        check.about("When a GIVE is delivered, and the bytes are a block");
        BlockExchange x = new BlockExchange();
        oneGive(x);
        check.due("harm", x.harm(0, 0, 4), true);
        check.due("name", x.message(0, 3), Check.nameOf(4, 1));
        check.due("fetch of that name", x.fetch(0, 1, Check.nameOf(4, 1)), 1);
        check.due("GIVE", x.deliver(0), 1);
        check.due("blocks", x.blocks(0), 0);
        check.due("state", x.state(0), 1);
        line(x, 0, 1, Check.nameOf(4, 1));
        // Bytes that are damaged, but a block, and whose name is missing, come in.
        BlockExchange y = new BlockExchange();
        oneGive(y);
        check.due("harm", y.harm(0, 0, 2), true);
        check.due("fetch of no block", y.fetch(0, 1, Check.nameOf(2, 1)), 1);
        check.due("harm", y.harm(0, 1, 1), true);
        check.due("fetch of a folder", y.fetch(0, 1, Check.nameOf(2, 0)), 1);
        check.due("GIVE", y.deliver(0), 1);
        check.hasBlock(y, 0, 2, 0);
        check.due("state", y.state(0), 2);
    }

    private static void giveOfAnotherMissingBlock() {
        check.about("the bytes are a block whose name is missing (the bytes as they are)");
        BlockExchange x = new BlockExchange();
        check.put(x, 1, 0, 1);
        check.due("fetch", x.fetch(0, 1, check.put(x, 0, Check.tree(1, A, 1, B))), 2);
        check.due("WANT of A", x.deliver(0), 0);
        check.due("harm: A becomes B", x.harm(1, 1, 3), true);
        check.due("name", x.message(1, 3), B);
        check.due("GIVE", x.deliver(1), 1);
        check.hasBlock(x, 0, 0, 2);
        check.due("A is not there", x.bytes(0, A), -1);
        check.due("retry", x.retry(0), 1);
        check.due("harmed to what is not missing", x.deliver(1), 0);
        check.due("harm: A becomes C", x.harm(1, 1, 2), true);
        check.due("GIVE", x.deliver(1), 1);
        check.due("blocks", x.blocks(0), 2);
        check.due("state", x.state(0), 1);
    }

    private static void giveWithAndWithoutRoom() {
        check.about("it comes in, or the fetch has failed if there is no room");
        for (int blocks = 62; blocks <= 64; blocks++) {
            BlockExchange x = new BlockExchange();
            check.fillTo(x, 0, blocks);
            check.put(x, 1, 0, 250);
            check.put(x, 1, Check.tree(1, Check.nameOf(0, 250)));
            int root = Check.nameOf(Check.tree(1, Check.nameOf(0, 250)));
            check.due("fetch", x.fetch(0, 1, root), 1);
            x.deliver(0);
            check.due("GIVE of the root", x.deliver(0), 1);
            check.due("state", x.state(0), blocks == 64 ? 3 : 1);
            check.due("blocks", x.blocks(0), Math.min(64, blocks + 1));
            check.due("bytes", x.bytes(0, root), blocks == 64 ? -1 : 6);
            check.due("no WANT if it has failed", x.waiting(), blocks == 64 ? 0 : 1);
            x.deliver(0);
            x.deliver(0);
            check.due("state", x.state(0), blocks == 62 ? 2 : 3);
            check.due("blocks", x.blocks(0), 64);
        }
        // A full store with nothing missing is no lack of room.
        BlockExchange y = new BlockExchange();
        check.fillTo(y, 0, 64);
        check.due("fetch", y.fetch(0, 1, Check.nameOf(0, 5)), 0);
        check.due("state", y.state(0), 2);
        check.due("fetch", y.fetch(0, 1, Check.nameOf(0, 250)), 1);
        check.due("collect makes room", y.collect(0), 64);
    }

    private static void giveAsksForNewNamesAlone() {
        check.about("then a WANT is sent for each name that is missing now and was not before");
        BlockExchange x = new BlockExchange();
        int inner = check.put(x, 1, Check.tree(1, B, 1, 71, 1, A, 1, 72));
        int root = check.put(x, 0, Check.tree(1, inner, 1, A, 1, 72));
        check.put(x, 0, 0, 2);
        check.due("fetch", x.fetch(0, 1, root), 3);
        line(x, 0, 1, inner, A, 72);
        check.due("WANT", x.deliver(0), 0);
        check.due("GIVE", x.deliver(2), 1);
        // B is there, A and 72 were missing before.
        line(x, 0, 1, A, 72, 71);
        // A leaf brings nothing new.
        check.put(x, 1, 0, 1);
        check.due("WANT", x.deliver(0), 0);
        check.due("GIVE", x.deliver(2), 1);
        line(x, 0, 1, 72, 71);
        check.due("state", x.state(0), 1);
    }

    private static void giveAsksInTheOrderOfTheWalk() {
        check.about("for each name that is missing now and was not before, in the order of the walk");
        BlockExchange x = new BlockExchange();
        // What comes in links a block that is there, under which names are missing.
        int there = check.put(x, 0, Check.folder(1, 84, 2, 83));
        int given = check.put(x, 1, Check.shard(15, 85, there, 82, 81));
        check.due("fetch", x.fetch(0, 1, given), 1);
        x.deliver(0);
        check.due("GIVE", x.deliver(0), 1);
        line(x, 0, 1, 85, 84, 83, 82, 81);
        check.due("retry", x.retry(0), 5);
        line(x, 0, 1, 85, 84, 83, 82, 81, 85, 84, 83, 82, 81);
    }

    /** A message that changes nothing is as good as lost. */
    private static void deliveredIsLost(String what, int kind, Consumer<BlockExchange> way) {
        Still still = new Still(check, way, A, B, C, Check.nameOf(4, 1), Check.nameOf(Check.tree(1, A, 1, B)));
        still.alike(what, x -> check.due(what, x.deliver(0), kind), x -> check.due("lost", x.harm(0, 0, 0), true));
    }

    private static void otherNonesChangeNothing() {
        check.about("Other messages change nothing. (NONE)");
        deliveredIsLost("a NONE, done", 2, x -> {
            twoNones(x);
            check.put(x, 0, 0, 1);
            check.put(x, 0, 0, 2);
            check.due("state", x.state(0), 2);
        });
        deliveredIsLost("a NONE, failed", 2, x -> {
            twoNones(x);
            check.due("NONE", x.deliver(1), 2);
            check.due("state", x.state(0), 3);
        });
        deliveredIsLost("a NONE from another store", 2, x -> {
            twoNones(x);
            check.due("fetch", x.fetch(0, 2, A), 1);
        });
        deliveredIsLost("a NONE of what is there", 2, x -> {
            twoNones(x);
            check.put(x, 0, 0, 1);
        });
        deliveredIsLost("a NONE of what is not under the root", 2, x -> {
            twoNones(x);
            check.due("fetch", x.fetch(0, 1, C), 1);
        });
    }

    private static void otherGivesChangeNothing() {
        check.about("Other messages change nothing. (GIVE)");
        deliveredIsLost("a GIVE, done", 1, x -> {
            oneGive(x);
            check.put(x, 0, 0, 1);
            check.due("collect", x.collect(0), 1);
            check.due("state", x.state(0), 2);
        });
        deliveredIsLost("a GIVE, failed", 1, x -> {
            oneGive(x);
            check.due("fetch", x.fetch(0, 1, B), 1);
            x.deliver(1);
            x.deliver(1);
            check.due("state", x.state(0), 3);
        });
        deliveredIsLost("a GIVE from another store", 1, x -> {
            oneGive(x);
            check.due("fetch", x.fetch(0, 2, A), 1);
        });
        deliveredIsLost("a GIVE of what is there", 1, x -> {
            oneGive(x);
            check.due("fetch", x.fetch(0, 1, check.put(x, 0, Check.tree(1, A, 1, B))), 2);
            check.put(x, 0, 0, 1);
        });
        deliveredIsLost("a GIVE of what is not under the root", 1, x -> {
            oneGive(x);
            check.due("fetch", x.fetch(0, 1, B), 1);
        });
        deliveredIsLost("a GIVE of no block", 1, x -> {
            oneGive(x);
            check.due("harm", x.harm(0, 0, 4), true);
            check.due("fetch", x.fetch(0, 1, Check.nameOf(4, 1)), 1);
        });
        deliveredIsLost("a GIVE that was harmed", 1, x -> {
            oneGive(x);
            check.due("harm", x.harm(0, 1, 128), true);
        });
    }

    private static void wantsAloneChangeNoStore() {
        check.about("When a WANT is delivered (its answer alone is new)");
        // The answer comes last, so that it can be lost again.
        Still still = Still.busy(check);
        still.alike("a WANT whose answer is lost", x -> {
            check.due("WANT", x.deliver(0), 0);
            check.due("the answer is lost", x.harm(2, 0, 0), true);
        }, x -> check.due("lost", x.harm(0, 0, 0), true));
    }
}
