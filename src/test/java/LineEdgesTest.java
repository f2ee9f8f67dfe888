/** The edges of the line: promises 19 (deliver), 20 (harm), 21 (message) and 22 (waiting). */
public final class LineEdgesTest {
    private static final Check check = new Check("LineEdgesTest");
    private static final int A = Still.A;

    public static void main(String[] args) {
        waitingFrom0To24();
        retrySendsUpTo24();
        fetchSendsUpTo24();
        giveSendsUpTo24();
        anAnswerAlwaysHasRoom();
        whatIsSentComesLast();
        deliverOfNoMessage();
        deliverOfEachPlace();
        deliverAnswersTheKind();
        loseNoMessage();
        loseEachPlace();
        loseWhateverTheByteIs();
        damageNoMessage();
        damageNoGive();
        damageEachByte();
        damageNoSuchByte();
        theLowestEightBits();
        damageTwice();
        damageOneCopy();
        messageOfNoPlace();
        messageOfNoKindOfQuestion();
        nameOfAGiveAsItIs();
        nameOfOthersAsSent();
        check.end();
    }

    /** So many WANTs of the names 1000, 1001, and so on, sent by fetches of store 0 from 1. */
    private static void wants(BlockExchange x, int count) {
        for (int i = 0; i < count; i++) {
            check.due("fetch", x.fetch(0, 1, 1000 + i), 1);
        }
        check.due("waiting", x.waiting(), count);
    }

    private static void waitingFrom0To24() {
        check.about("MESSAGES wait in a row, at most 24; waiting: How many messages wait.");
        BlockExchange x = new BlockExchange();
        check.due("none", x.waiting(), 0);
        for (int i = 1; i <= 24; i++) {
            check.due("fetch", x.fetch(i % 3, (i + 1) % 3, i), 1);
            check.due("waiting", x.waiting(), i);
        }
        for (int i = 25; i <= 27; i++) {
            check.due("fetch, lost", x.fetch(i % 3, (i + 1) % 3, i), 1);
            check.due("waiting", x.waiting(), 24);
        }
        for (int k = 0; k < 24; k++) {
            check.due("name", x.message(k, 3), k + 1);
        }
        for (int i = 24; i > 0; i--) {
            check.due("lose", x.harm(0, 0, 0), true);
            check.due("waiting", x.waiting(), i - 1);
        }
        check.due("lose none", x.harm(0, 0, 0), false);
    }

    private static void retrySendsUpTo24() {
        check.about("one that is sent comes last, or is lost if 24 wait (retry)");
        BlockExchange x = new BlockExchange();
        int root = check.put(x, 0, Check.tree(1, 11, 1, 12, 1, 13));
        check.due("fetch", x.fetch(0, 1, root), 3);
        for (int i = 2; i <= 8; i++) {
            check.due("retry", x.retry(0), 3);
            check.due("waiting", x.waiting(), 3 * i);
        }
        check.due("retry, all are lost", x.retry(0), 3);
        check.due("waiting", x.waiting(), 24);
        check.due("lose one", x.harm(0, 0, 0), true);
        check.due("retry, the first is sent", x.retry(0), 3);
        check.due("waiting", x.waiting(), 24);
        check.due("the last one", x.message(23, 3), 11);
        check.due("the one before", x.message(22, 3), 13);
        check.due("lose two", x.harm(0, 0, 0), true);
        check.due("lose two", x.harm(0, 0, 0), true);
        check.due("retry, the first two are sent", x.retry(0), 3);
        check.due("the last one", x.message(23, 3), 12);
        check.due("the one before", x.message(22, 3), 11);
        check.due("state", x.state(0), 1);
        Still full = new Still(check, y -> wants(y, 24), 1023);
        full.alike("a WANT that is lost", y -> check.due("retry", y.retry(0), 1), y -> { });
    }

    private static void fetchSendsUpTo24() {
        check.about("one that is sent comes last, or is lost if 24 wait (fetch)");
        for (int before = 20; before <= 24; before++) {
            BlockExchange x = new BlockExchange();
            wants(x, before);
            int root = check.put(x, 2, Check.tree(1, 11, 1, 12, 1, 13, 1, 14));
            check.due("fetch: how many are missing", x.fetch(2, 1, root), 4);
            check.due("waiting", x.waiting(), 24);
            for (int k = before; k < 24; k++) {
                check.due("name", x.message(k, 3), 11 + k - before);
                check.due("sender", x.message(k, 1), 2);
            }
            check.due("the one before", x.message(before - 1, 3), 1000 + before - 1);
            check.due("state", x.state(2), 1);
            check.due("retry", x.retry(2), 4);
            check.due("waiting", x.waiting(), 24);
        }
    }

    private static void giveSendsUpTo24() {
        check.about("one that is sent comes last, or is lost if 24 wait (a WANT behind a GIVE)");
        for (int before = 19; before <= 23; before++) {
            BlockExchange x = new BlockExchange();
            int root = check.put(x, 1, Check.tree(1, 11, 1, 12, 1, 13, 1, 14));
            check.due("fetch", x.fetch(2, 1, root), 1);
            check.due("WANT", x.deliver(0), 0);
            for (int i = 0; i < before; i++) {
                check.due("fetch", x.fetch(0, 1, 1000 + i), 1);
            }
            check.due("waiting", x.waiting(), before + 1);
            check.due("GIVE", x.deliver(0), 1);
            check.due("waiting", x.waiting(), Math.min(24, before + 4));
            for (int k = before; k < Math.min(24, before + 4); k++) {
                check.due("name", x.message(k, 3), 11 + k - before);
            }
            check.due("blocks", x.blocks(2), 1);
            check.due("state", x.state(2), 1);
            check.due("retry counts what was lost", x.retry(2), 4);
        }
    }

    private static void anAnswerAlwaysHasRoom() {
        check.about("The k-th waiting message (from 0) is taken out and delivered; at most 24");
        for (int k = 0; k < 24; k++) {
            BlockExchange x = new BlockExchange();
            check.put(x, 1, 0, 1);
            for (int i = 0; i < 24; i++) {
                check.due("fetch", x.fetch(0, 1, i % 2 == 0 ? A : 1000), 1);
            }
            check.due("waiting", x.waiting(), 24);
            check.due("WANT", x.deliver(k), 0);
            check.due("waiting", x.waiting(), 24);
            check.due("the answer", x.message(23, 0), k % 2 == 0 ? 1 : 2);
            check.due("its name", x.message(23, 3), k % 2 == 0 ? A : 1000);
            check.due("the others", x.message(22, 0), 0);
        }
    }

    private static void whatIsSentComesLast() {
        check.about("one that is sent comes last");
        BlockExchange x = new BlockExchange();
        wants(x, 3);
        check.due("WANT", x.deliver(0), 0);
        check.due("first", x.message(0, 3), 1001);
        check.due("second", x.message(1, 3), 1002);
        check.due("last", x.message(2, 3), 1000);
        check.due("kind of the last", x.message(2, 0), 2);
        check.due("fetch", x.fetch(1, 2, 7), 1);
        check.due("last", x.message(3, 3), 7);
        check.due("sender", x.message(3, 1), 1);
        check.due("receiver", x.message(3, 2), 2);
    }

    private static final int[] NO_PLACES = {-1, 3, 24, 25, -24, Integer.MIN_VALUE, Integer.MAX_VALUE};

    private static void deliverOfNoMessage() {
        check.about("deliver: its kind; -1 if there is none");
        Still still = Still.busy(check);
        for (int k : NO_PLACES) {
            still.refused("deliver(" + k + ")", x -> x.deliver(k), -1);
        }
        Still empty = new Still(check, x -> { });
        empty.refused("deliver(0)", x -> x.deliver(0), -1);
        Still full = new Still(check, x -> wants(x, 24));
        full.refused("deliver(24)", x -> x.deliver(24), -1);
        full.refused("deliver(-1)", x -> x.deliver(-1), -1);
        BlockExchange x = new BlockExchange();
        wants(x, 24);
        check.due("deliver(23)", x.deliver(23), 0);
        check.due("waiting", x.waiting(), 24);
        check.due("the answer", x.message(23, 0), 2);
        // The place behind the last one, which an earlier message has had.
        BlockExchange y = new BlockExchange();
        wants(y, 1);
        check.due("deliver", y.deliver(0), 0);
        check.due("deliver", y.deliver(0), 2);
        check.due("deliver", y.deliver(0), -1);
        check.due("message", y.message(0, 0), -1);
    }

    private static void deliverOfEachPlace() {
        check.about("The k-th waiting message (from 0) is taken out");
        for (int k = 0; k < 24; k++) {
            BlockExchange x = new BlockExchange();
            wants(x, 24);
            check.due("deliver", x.deliver(k), 0);
            for (int i = 0; i < 23; i++) {
                check.due("name", x.message(i, 3), 1000 + (i < k ? i : i + 1));
            }
            check.due("the answer", x.message(23, 3), 1000 + k);
        }
    }

    private static void deliverAnswersTheKind() {
        check.about("deliver: its kind (whether it changes anything or not)");
        BlockExchange x = new BlockExchange();
        Still.makeBusy(check, x);
        check.due("NONE", x.deliver(2), 2);
        check.due("GIVE", x.deliver(1), 1);
        check.due("WANT", x.deliver(0), 0);
        BlockExchange y = new BlockExchange();
        Still.makeBusy(check, y);
        check.due("fetch of something else", y.fetch(2, 0, 5), 1);
        check.due("fetch of something else", y.fetch(1, 0, 6), 1);
        check.due("a NONE that changes nothing", y.deliver(2), 2);
        check.due("a GIVE that changes nothing", y.deliver(1), 1);
        check.due("blocks", y.blocks(1), 2);
        check.due("state", y.state(2), 1);
    }

    private static void loseNoMessage() {
        check.about("harm: False, refused, if there is no such message (x is 0)");
        Still still = Still.busy(check);
        for (int k : NO_PLACES) {
            still.refused("harm(" + k + ", 0, 0)", x -> x.harm(k, 0, 0), false);
        }
        new Still(check, x -> { }).refused("harm(0, 0, 0)", x -> x.harm(0, 0, 0), false);
        Still full = new Still(check, x -> wants(x, 24));
        full.refused("harm(24, 0, 0)", x -> x.harm(24, 0, 0), false);
    }

    private static void loseEachPlace() {
        check.about("The k-th waiting message is lost if x is 0");
        for (int k = 0; k < 24; k++) {
            BlockExchange x = new BlockExchange();
            wants(x, 24);
            check.due("harm", x.harm(k, 0, 0), true);
            check.due("waiting", x.waiting(), 23);
            for (int i = 0; i < 23; i++) {
                check.due("name", x.message(i, 3), 1000 + (i < k ? i : i + 1));
            }
            check.due("behind the last", x.message(23, 3), -1);
            check.due("state", x.state(0), 1);
        }
    }

    private static void loseWhateverTheByteIs() {
        check.about("harm: lost if x is 0 (any kind, any i)");
        for (int i : new int[] {0, -1, 9, 10, Integer.MIN_VALUE, Integer.MAX_VALUE}) {
            for (int k = 0; k < 3; k++) {
                BlockExchange x = new BlockExchange();
                Still.makeBusy(check, x);
                check.due("harm(" + k + ", " + i + ", 0)", x.harm(k, i, 0), true);
                check.due("waiting", x.waiting(), 2);
                check.due("kind", x.message(0, 0), k == 0 ? 1 : 0);
                check.due("kind", x.message(1, 0), k == 2 ? 1 : 2);
                check.due("blocks", x.blocks(1), 2);
                check.due("state", x.state(1), 1);
                check.due("state", x.state(2), 1);
            }
        }
    }

    private static void damageNoMessage() {
        check.about("harm: False, refused, if there is no such message (x is not 0)");
        Still still = Still.busy(check);
        for (int k : NO_PLACES) {
            still.refused("harm(" + k + ", 0, 1)", x -> x.harm(k, 0, 1), false);
        }
        new Still(check, x -> { }).refused("harm(0, 0, 1)", x -> x.harm(0, 0, 1), false);
    }

    private static void damageNoGive() {
        check.about("harm: False, refused, if x is not 0 and it is no GIVE");
        Still still = Still.busy(check);
        for (int x : new int[] {1, 255, 256, -1, Integer.MIN_VALUE, Integer.MAX_VALUE}) {
            still.refused("harm of a WANT", y -> y.harm(0, 0, x), false);
            still.refused("harm of a NONE", y -> y.harm(2, 0, x), false);
        }
        // A NONE and a WANT in the place of a GIVE that was there before.
        BlockExchange y = new BlockExchange();
        check.put(y, 1, Check.tree(1, 2, 3, 4, 5, 6, 7, 8));
        check.due("fetch", y.fetch(0, 1, Check.nameOf(Check.tree(1, 2, 3, 4, 5, 6, 7, 8))), 1);
        y.deliver(0);
        check.due("GIVE", y.message(0, 0), 1);
        check.due("lost", y.harm(0, 0, 0), true);
        for (int i = 0; i < 3; i++) {
            check.due("fetch", y.fetch(0, 1, 77), 1);
            check.due("harm of a WANT", y.harm(0, 0, 1), false);
            y.deliver(0);
            check.due("harm of a NONE", y.harm(0, 0, 1), false);
            y.deliver(0);
        }
    }

    /** A GIVE of this row waits alone, from 1 to 0. */
    private static BlockExchange give(int... row) {
        BlockExchange x = new BlockExchange();
        check.due("fetch", x.fetch(0, 1, check.put(x, 1, row)), 1);
        check.due("WANT", x.deliver(0), 0);
        check.due("kind", x.message(0, 0), 1);
        check.due("waiting", x.waiting(), 1);
        return x;
    }

    private static final int[][] ROWS = {
        {0}, {0, 255}, {2, 0}, Check.leaf(1, 2, 3, 4, 5, 6, 7, 8), Check.shard(1, 9),
        Check.tree(65535, 65520, 2, 3, 4, 5, 6, 7)
    };

    private static void damageEachByte() {
        check.about("byte i of a GIVE becomes itself exclusive-ored with the lowest eight bits of x");
        for (int[] row : ROWS) {
            for (int i = 0; i < row.length; i++) {
                for (int x : new int[] {1, 128, 255}) {
                    BlockExchange y = give(row);
                    check.due("harm", y.harm(0, i, x), true);
                    int[] other = row.clone();
                    other[i] ^= x;
                    check.due("name", y.message(0, 3), Check.nameOf(other));
                    check.due("kind", y.message(0, 0), 1);
                    check.due("waiting", y.waiting(), 1);
                    check.hasBlock(y, 1, row);
                }
            }
        }
    }

    private static void damageNoSuchByte() {
        check.about("harm: False, refused, if x is not 0 and it has no byte i");
        for (int[] row : ROWS) {
            Still still = new Still(check, x -> {
                check.due("fetch", x.fetch(0, 1, check.put(x, 1, row)), 1);
                check.due("WANT", x.deliver(0), 0);
            }, Check.nameOf(row));
            int[] places = {-1, row.length, row.length + 1, 32, Integer.MIN_VALUE, Integer.MAX_VALUE};
            for (int i : places) {
                still.refused("harm(0, " + i + ", 1)", x -> x.harm(0, i, 1), false);
                still.refused("harm(0, " + i + ", 256)", x -> x.harm(0, i, 256), false);
            }
            BlockExchange x = give(row);
            check.due("the last byte", x.harm(0, row.length - 1, 1), true);
        }
    }

    private static void theLowestEightBits() {
        check.about("exclusive-ored with the lowest eight bits of x");
        int[][] cases = {
            {255, 255}, {256, 0}, {257, 1}, {511, 255}, {-1, 255}, {-256, 0}, {-255, 1}, {65536, 0},
            {Integer.MIN_VALUE, 0}, {Integer.MAX_VALUE, 255}, {Integer.MIN_VALUE + 7, 7}
        };
        for (int[] one : cases) {
            BlockExchange x = give(0, 170);
            check.due("harm of " + one[0], x.harm(0, 1, one[0]), true);
            check.due("name", x.message(0, 3), Check.nameOf(0, 170 ^ one[1]));
            check.due("waiting", x.waiting(), 1);
            // What the byte has become is seen when it comes in, too.
            check.due("fetch", x.fetch(0, 1, Check.nameOf(0, 170 ^ one[1])), 1);
            check.due("GIVE", x.deliver(0), 1);
            check.hasBlock(x, 0, 0, 170 ^ one[1]);
        }
    }

    private static void damageTwice() {
        check.about("becomes itself exclusive-ored");
        BlockExchange x = give(0, 1, 2);
        check.due("harm", x.harm(0, 1, 9), true);
        check.due("harm", x.harm(0, 2, 200), true);
        check.due("name", x.message(0, 3), Check.nameOf(0, 1 ^ 9, 2 ^ 200));
        check.due("harm back", x.harm(0, 1, 9), true);
        check.due("harm back", x.harm(0, 2, 200), true);
        check.due("name", x.message(0, 3), Check.nameOf(0, 1, 2));
        check.due("GIVE", x.deliver(0), 1);
        check.due("state", x.state(0), 2);
        check.hasBlock(x, 0, 0, 1, 2);
        Still still = Still.busy(check);
        still.alike("harm there and back", y -> {
            check.due("harm", y.harm(1, 9, 77), true);
            check.due("harm", y.harm(1, 9, 77 + 256), true);
        }, y -> { });
        still.alike("harm of no bits", y -> check.due("harm", y.harm(1, 0, 256), true), y -> { });
    }

    private static void damageOneCopy() {
        check.about("it sends a GIVE with its bytes (a copy)");
        BlockExchange x = give(0, 1);
        check.due("retry", x.retry(0), 1);
        check.due("WANT", x.deliver(1), 0);
        check.due("harm the first", x.harm(0, 1, 3), true);
        check.due("the first", x.message(0, 3), Still.B);
        check.due("the second", x.message(1, 3), A);
        check.due("GIVE, the second", x.deliver(1), 1);
        check.due("harm the first when the second is in", x.harm(0, 1, 1), true);
        check.hasBlock(x, 0, 0, 1);
        check.hasBlock(x, 1, 0, 1);
        check.due("a message that is lost changes no other", x.harm(0, 0, 0), true);
        check.hasBlock(x, 0, 0, 1);
    }

    private static void messageOfNoPlace() {
        check.about("message: -1 if there is none such (k)");
        Still still = Still.busy(check);
        for (int k : NO_PLACES) {
            for (int what = 0; what < 4; what++) {
                int asked = what;
                still.refused("message(" + k + ", " + what + ")", x -> x.message(k, asked), -1);
            }
        }
        BlockExchange x = new BlockExchange();
        for (int what = 0; what < 4; what++) {
            check.due("of an empty line", x.message(0, what), -1);
        }
        wants(x, 24);
        check.due("the last", x.message(23, 3), 1023);
        for (int what = 0; what < 4; what++) {
            check.due("behind the last", x.message(24, what), -1);
        }
    }

    private static void messageOfNoKindOfQuestion() {
        check.about("message: the kind (what = 0), the store that sent it (1), the one that gets it (2), its name (3); -1 if there is none such");
        BlockExchange x = new BlockExchange();
        Still.makeBusy(check, x);
        int[][] due = {{0, 1, 0, A}, {1, 0, 1, Still.TREE}, {2, 1, 2, 77}};
        for (int k = 0; k < 3; k++) {
            for (int what = 0; what < 4; what++) {
                check.due("message(" + k + ", " + what + ")", x.message(k, what), due[k][what]);
            }
            for (int what : new int[] {-1, 4, 5, Integer.MIN_VALUE, Integer.MAX_VALUE}) {
                check.due("message(" + k + ", " + what + ")", x.message(k, what), -1);
            }
        }
        check.due("asking takes nothing out", x.waiting(), 3);
    }

    private static void nameOfAGiveAsItIs() {
        check.about("of a GIVE the name of its bytes as they are (3)");
        BlockExchange x = give(0, 1);
        check.due("whole", x.message(0, 3), A);
        check.due("harm", x.harm(0, 1, 3), true);
        check.due("another block", x.message(0, 3), Still.B);
        check.due("harm", x.harm(0, 0, 255), true);
        check.due("no block", x.message(0, 3), Check.nameOf(255, 2));
        check.due("sender", x.message(0, 1), 1);
        check.due("receiver", x.message(0, 2), 0);
        // A GIVE of a block whose name is 0.
        for (int code = 0; code < 1 << 24; code++) {
            int[] row = Check.leaf(code & 255, code >> 8 & 255, code >> 16);
            if (Check.nameOf(row) == 0) {
                check.due("name 0", give(row).message(0, 3), 0);
                return;
            }
        }
        check.due("a block of name 0 was found", 0, 1);
    }

    private static void nameOfOthersAsSent() {
        check.about("message: its name");
        for (int name : new int[] {0, 1, 65520}) {
            BlockExchange x = new BlockExchange();
            check.due("fetch", x.fetch(2, 1, name), 1);
            check.due("WANT", x.message(0, 3), name);
            check.due("deliver", x.deliver(0), 0);
            check.due("NONE", x.message(0, 3), name);
            check.due("deliver", x.deliver(0), 2);
            check.due("state", x.state(2), 3);
        }
    }
}
