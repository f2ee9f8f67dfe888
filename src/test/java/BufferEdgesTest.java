import java.util.LinkedHashMap;
import java.util.Map;
import java.util.function.Function;

/** The edges of buffer and list: promises 1 to 4 and 7, and the terms BYTES, NAME, BUFFER and LIST. */
public final class BufferEdgesTest {
    private static final Check check = new Check("BufferEdgesTest");
    private static final int NO_BYTES = 40503;

    public static void main(String[] args) {
        aNewObjectIsEmpty();
        noNameIsThereAtFirst();
        lastCallCounts();
        bytesAre0To255();
        theBufferHas32Bytes();
        aFullBufferIsEmptiedByCalls();
        nameOfNoBytes();
        nameWrapsAround();
        nameTakesBytesInOrder();
        rowsMayHaveOneName();
        titlesAre1To255();
        namesAre0To65520();
        theListHas16Titles();
        aTitleThatIsThereGetsAnotherName();
        clearEmptiesBoth();
        clearLeavesTheRest();
        putAndAddLeaveTheList();
        questionsChangeNothing();
        check.end();
    }

    private static void aNewObjectIsEmpty() {
        check.about("Empty stores, buffer and list; no pins, no fetches, no messages.");
        BlockExchange x = new BlockExchange();
        check.due("name", x.name(), NO_BYTES);
        check.due("waiting", x.waiting(), 0);
        check.due("message", x.message(0, 0), -1);
        check.due("deliver", x.deliver(0), -1);
        check.due("harm", x.harm(0, 0, 0), false);
        for (int store = 0; store < 3; store++) {
            check.due("blocks", x.blocks(store), 0);
            check.due("state", x.state(store), 0);
            check.due("retry", x.retry(store), -1);
            check.due("collect", x.collect(store), 0);
            check.due("unpin deep", x.pin(store, 0, true, false), false);
            check.due("unpin", x.pin(store, 0, false, false), false);
        }
        check.due("folder of an empty list", x.folder(1), Check.nameOf(2, 0));
        check.due("add of an empty buffer", x.add(1, 0, 2), Check.nameOf(0));
    }

    /** A new object for each 512 calls. */
    private static void noNameIsThereAtFirst() {
        check.about("Empty stores");
        BlockExchange x = new BlockExchange();
        int there = 0;
        for (int i = 0; i < 3 * 65521; i++) {
            x = i % 512 == 0 ? new BlockExchange() : x;
            there += x.bytes(i % 3, i / 3) == -1 ? 0 : 1;
        }
        check.due("names that are there", there, 0);
    }

    private static void lastCallCounts() {
        check.about("An object is used for at most 512 calls");
        Map<String, Function<BlockExchange, Object>> calls = new LinkedHashMap<>();
        calls.put("type", x -> x.type(5));
        calls.put("clear", x -> {
            x.clear();
            return x.name() == NO_BYTES;
        });
        calls.put("name", x -> x.name());
        calls.put("put", x -> x.put(2));
        calls.put("add", x -> x.add(2, 1, 2));
        calls.put("entry", x -> x.entry(5, 5));
        calls.put("folder", x -> x.folder(2));
        calls.put("bytes", x -> x.bytes(1, Still.FOLDER));
        calls.put("raw", x -> x.raw(1, Still.FOLDER, 7));
        calls.put("length", x -> x.length(0, Still.TREE));
        calls.put("read", x -> x.read(0, Still.TREE, 1));
        calls.put("find", x -> x.find(1, Still.FOLDER, 9));
        calls.put("pin", x -> x.pin(1, Still.FOLDER, true, true));
        calls.put("collect", x -> x.collect(0));
        calls.put("blocks", x -> x.blocks(0));
        calls.put("fetch", x -> x.fetch(2, 0, Still.TREE));
        calls.put("retry", x -> x.retry(1));
        calls.put("deliver", x -> x.deliver(1));
        calls.put("harm", x -> x.harm(1, 9, 3));
        calls.put("message", x -> x.message(1, 3));
        calls.put("waiting", x -> x.waiting());
        calls.put("state", x -> x.state(0));
        calls.forEach((name, call) -> {
            BlockExchange early = new BlockExchange();
            Still.makeBusy(check, early);
            BlockExchange late = new BlockExchange();
            Still.makeBusy(check, late);
            // 41 calls are made; the one that clears makes two of its own.
            for (int made = 41; made < (name.equals("clear") ? 510 : 511); made++) {
                late.waiting();
            }
            check.same(name + " as the 512th call", call.apply(late), call.apply(early));
        });
    }

    private static void bytesAre0To255() {
        check.about("BYTES are 0 .. 255; type: false, refused, if it is not 0 .. 255");
        BlockExchange x = new BlockExchange();
        check.due("type(0)", x.type(0), true);
        check.due("type(255)", x.type(255), true);
        check.due("name", x.name(), Check.nameOf(0, 255));
        Still still = Still.busy(check);
        for (int b : new int[] {-1, 256, -256, 256 + 5, 65536, Integer.MIN_VALUE, Integer.MAX_VALUE}) {
            still.refused("type(" + b + ")", y -> y.type(b), false);
        }
    }

    private static void type(BlockExchange x, int bytes) {
        for (int i = 0; i < bytes; i++) {
            check.due("byte " + i, x.type(i), true);
        }
    }

    private static void theBufferHas32Bytes() {
        check.about("The BUFFER has at most 32 bytes; type: refused, if 32 are there");
        BlockExchange x = new BlockExchange();
        type(x, 31);
        check.due("the 32nd byte", x.type(31), true);
        check.due("the 33rd byte", x.type(32), false);
        int[] row = new int[32];
        for (int i = 0; i < 32; i++) {
            row[i] = i;
        }
        check.due("name", x.name(), Check.nameOf(row));
        Still full = new Still(check, y -> type(y, 32));
        full.refused("the 33rd byte", y -> y.type(32), false);
        full.refused("the 33rd byte, 0", y -> y.type(0), false);
        full.refused("the 33rd byte, no byte", y -> y.type(-1), false);
    }

    private static void aFullBufferIsEmptiedByCalls() {
        check.about("add: and the buffer becomes empty; clear: Buffer and list become empty; The BUFFER has at most 32 bytes");
        BlockExchange x = new BlockExchange();
        type(x, 32);
        x.add(0, 8, 4);
        check.due("name after add", x.name(), NO_BYTES);
        type(x, 32);
        check.due("the 33rd byte", x.type(0), false);
        x.clear();
        type(x, 32);
        check.due("the 33rd byte", x.type(0), false);
        x.clear();
        check.type(x, Check.tree(1, 2, 3, 4, 5, 6, 7, 8));
        x.put(0);
        check.due("name after put", x.name(), NO_BYTES);
        type(x, 32);
        check.due("the 33rd byte", x.type(0), false);
    }

    private static void nameOfNoBytes() {
        check.about("a number h, at first 40503");
        BlockExchange x = new BlockExchange();
        check.due("name", x.name(), 40503);
        check.due("type", x.type(0), true);
        check.due("name of the byte 0", x.name(), (263 * 40503 + 0 + 1) % 65521);
    }

    /** Rows that are alike but for a last byte one greater, and whose names are 65520 and 0. */
    private static void nameWrapsAround() {
        check.about("becomes (263 h + b + 1) modulo 65521");
        for (int first = 0; first < 256; first++) {
            for (int second = 0; second < 256; second++) {
                long h = 263L * Check.nameOf(first, second) + 1;
                int last = (int) (65520 - h % 65521);
                if (last >= 0 && last < 255) {
                    BlockExchange x = new BlockExchange();
                    check.type(x, first, second, last);
                    check.due("name", x.name(), 65520);
                    BlockExchange y = new BlockExchange();
                    check.type(y, first, second, last + 1);
                    check.due("name", y.name(), 0);
                    check.due("type", y.type(0), true);
                    check.due("name behind 0", y.name(), 1);
                    return;
                }
            }
        }
        check.due("a wrap-around was found", 0, 1);
    }

    private static void nameTakesBytesInOrder() {
        check.about("for each byte b in its order");
        BlockExchange x = new BlockExchange();
        check.type(x, 1, 2);
        BlockExchange y = new BlockExchange();
        check.type(y, 2, 1);
        check.due("name of 1 2", x.name(), (263L * ((263L * 40503 + 2) % 65521) + 3) % 65521);
        check.due("name of 2 1", y.name(), (263L * ((263L * 40503 + 3) % 65521) + 2) % 65521);
        check.due("they differ", x.name() != y.name(), true);
    }

    private static void rowsMayHaveOneName() {
        check.about("Rows that are not the same may have one name.");
        BlockExchange x = new BlockExchange();
        check.type(x, 6, 221);
        BlockExchange y = new BlockExchange();
        check.type(y, 255, 255);
        check.due("name of 255 255", y.name(), x.name());
    }

    private static void titlesAre1To255() {
        check.about("entry: false, refused, if title is not 1 .. 255");
        BlockExchange x = new BlockExchange();
        check.due("entry(1, 7)", x.entry(1, 7), true);
        check.due("entry(255, 8)", x.entry(255, 8), true);
        check.due("folder", x.folder(0), Check.nameOf(Check.folder(1, 7, 255, 8)));
        Still still = Still.busy(check);
        for (int title : new int[] {0, 256, -1, 257, Integer.MIN_VALUE, Integer.MAX_VALUE}) {
            still.refused("entry(" + title + ", 7)", y -> y.entry(title, 7), false);
        }
    }

    private static void namesAre0To65520() {
        check.about("entry: false, refused, if name is not 0 .. 65520");
        BlockExchange x = new BlockExchange();
        check.due("entry(3, 0)", x.entry(3, 0), true);
        check.due("entry(4, 65520)", x.entry(4, 65520), true);
        check.due("folder", x.folder(0), Check.nameOf(Check.folder(3, 0, 4, 65520)));
        Still still = Still.busy(check);
        for (int name : new int[] {-1, 65521, 65535, 65536, Integer.MIN_VALUE, Integer.MAX_VALUE}) {
            still.refused("entry(7, " + name + ")", y -> y.entry(7, name), false);
            still.refused("entry of a title that is there", y -> y.entry(3, name), false);
        }
    }

    private static void enter(BlockExchange x, int titles) {
        for (int i = 0; i < titles; i++) {
            check.due("title " + i, x.entry(10 + i, i), true);
        }
    }

    private static void theListHas16Titles() {
        check.about("The LIST has at most 16 titles; entry: refused, if 16 other titles are in the list");
        BlockExchange x = new BlockExchange();
        enter(x, 15);
        check.due("the 16th title", x.entry(255, 500), true);
        check.due("the 17th title", x.entry(1, 501), false);
        int name = x.folder(0);
        check.due("find the 16th", x.find(0, name, 255), 500);
        check.due("find the 17th", x.find(0, name, 1), -1);
        enter(x, 16);
        Still full = new Still(check, y -> enter(y, 16));
        full.refused("the 17th title, the least", y -> y.entry(1, 5), false);
        full.refused("the 17th title, the greatest", y -> y.entry(255, 5), false);
        full.refused("a title of the 16 with no name", y -> y.entry(10, 65521), false);
        full.refused("no title", y -> y.entry(0, 5), false);
    }

    private static void aTitleThatIsThereGetsAnotherName() {
        check.about("The list has the title with that name from now on");
        BlockExchange x = new BlockExchange();
        enter(x, 16);
        for (int i = 0; i < 16; i++) {
            check.due("one of 16 titles", x.entry(10 + i, 900 + i), true);
        }
        check.due("another one still", x.entry(9, 1), false);
        int name = x.folder(0);
        for (int i = 0; i < 16; i++) {
            check.due("find", x.find(0, name, 10 + i), 900 + i);
        }
        x.entry(3, 1);
        x.entry(3, 2);
        check.due("the title is there once", x.folder(1), Check.nameOf(Check.folder(3, 2)));
    }

    private static void clearEmptiesBoth() {
        check.about("clear: Buffer and list become empty.");
        BlockExchange x = new BlockExchange();
        type(x, 32);
        enter(x, 16);
        x.clear();
        check.due("name", x.name(), NO_BYTES);
        check.due("folder", x.folder(0), Check.nameOf(2, 0));
        x.clear();
        check.due("name", x.name(), NO_BYTES);
        type(x, 32);
        enter(x, 16);
        check.due("the 33rd byte", x.type(1), false);
        check.due("the 17th title", x.entry(1, 1), false);
    }

    private static void clearLeavesTheRest() {
        check.about("clear: Buffer and list become empty.");
        BlockExchange x = new BlockExchange();
        Still.makeBusy(check, x);
        x.clear();
        check.due("blocks", x.blocks(0), 4);
        check.due("blocks", x.blocks(1), 2);
        check.due("waiting", x.waiting(), 3);
        check.due("message", x.message(1, 3), Still.TREE);
        check.due("state", x.state(0), 2);
        check.due("state", x.state(1), 1);
        check.due("retry", x.retry(2), 1);
        check.due("unpin", x.pin(0, Still.TREE, true, false), true);
        check.due("unpin", x.pin(0, Still.A, false, false), true);
        check.due("unpin", x.pin(1, Still.C, true, false), true);
    }

    private static void putAndAddLeaveTheList() {
        check.about("put, add: and the buffer becomes empty");
        int list = Check.nameOf(Check.folder(3, Still.A, 200, Still.TREE));
        BlockExchange x = new BlockExchange();
        Still.makeBusy(check, x);
        check.due("put", x.put(2), Still.BUFFER);
        check.due("name", x.name(), NO_BYTES);
        check.due("folder", x.folder(2), list);
        BlockExchange y = new BlockExchange();
        Still.makeBusy(check, y);
        check.due("add", y.add(2, 0, 2), Check.nameOf(0, 0, 7));
        check.due("name", y.name(), NO_BYTES);
        check.due("folder", y.folder(2), list);
    }

    private static void questionsChangeNothing() {
        check.about("Nothing is promised beyond the answers and state changes described above");
        Still still = Still.busy(check);
        still.refused("name", x -> x.name(), Still.BUFFER);
        still.refused("bytes", x -> x.bytes(0, Still.TREE), 10);
        still.refused("raw", x -> x.raw(0, Still.TREE, 9), Still.B / 256);
        still.refused("length", x -> x.length(0, Still.TREE), 2);
        still.refused("read", x -> x.read(0, Still.TREE, 1), 2);
        still.refused("find", x -> x.find(1, Still.FOLDER, 9), Still.A);
        still.refused("blocks", x -> x.blocks(0), 4);
        still.refused("message", x -> x.message(1, 3), Still.TREE);
        still.refused("waiting", x -> x.waiting(), 3);
        still.refused("state", x -> x.state(1), 1);
    }
}
