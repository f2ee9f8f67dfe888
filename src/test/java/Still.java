import java.util.ArrayList;
import java.util.List;
import java.util.function.Consumer;
import java.util.function.Function;

/**
 * "A call that is refused changes nothing": of two objects that have come the same way one gets the refused
 * call, and then both are asked for all that can be seen of them. As asking for pins, for the list or for what
 * a fetch still wants changes an object, each way of asking gets two objects of its own.
 */
final class Still {
    private final Check check;
    private final Consumer<BlockExchange> way;
    private final int[] names;

    /** The names are those of which the stores are asked. */
    Still(Check check, Consumer<BlockExchange> way, int... names) {
        this.check = check;
        this.way = way;
        this.names = names;
    }

    static final int A = Check.nameOf(0, 1);
    static final int B = Check.nameOf(0, 2);
    static final int C = Check.nameOf(0, 3);
    static final int TREE = Check.nameOf(Check.tree(1, A, 1, B));
    static final int FOLDER = Check.nameOf(Check.folder(5, TREE, 9, A));
    static final int BUFFER = Check.nameOf(0, 7);

    /** Something in every part: blocks, pins, each kind of message, a fetch that runs and one that is done. */
    static Still busy(Check check) {
        return busy(check, x -> { });
    }

    /** Goes on from the busy object with calls of its own. */
    static Still busy(Check check, Consumer<BlockExchange> more, int... moreNames) {
        int[] names = {A, B, C, TREE, FOLDER, BUFFER, 77};
        int[] all = new int[names.length + moreNames.length];
        System.arraycopy(names, 0, all, 0, names.length);
        System.arraycopy(moreNames, 0, all, names.length, moreNames.length);
        return new Still(check, x -> {
            makeBusy(check, x);
            more.accept(x);
        }, all);
    }

    /** 41 calls. What waits then: a WANT of A from 1 to 0, a GIVE of TREE from 0 to 1, a NONE of 77 from 1 to 2. */
    static void makeBusy(Check check, BlockExchange x) {
        check.put(x, 0, 0, 1);
        check.put(x, 0, 0, 2);
        check.put(x, 0, Check.tree(1, A, 1, B));
        check.put(x, 1, 0, 3);
        x.entry(9, A);
        x.entry(5, TREE);
        check.due("folder", x.folder(0), FOLDER);
        check.due("pin", x.pin(0, TREE, true, true), true);
        check.due("pin", x.pin(0, A, false, true), true);
        check.due("pin", x.pin(1, C, true, true), true);
        check.due("fetch", x.fetch(1, 0, FOLDER), 1);
        x.deliver(0);
        x.deliver(0);
        x.deliver(0);
        check.due("fetch", x.fetch(2, 1, 77), 1);
        x.deliver(2);
        check.due("fetch", x.fetch(0, 1, FOLDER), 0);
        x.entry(200, TREE);
        x.entry(3, A);
        check.type(x, 0, 7);
    }

    void refused(String call, Function<BlockExchange, Object> made, Object due) {
        alike(call, x -> check.same(call, made.apply(x), due), x -> { });
    }

    /** Whichever of two ways an object goes on, all that can be seen of it then is the same. */
    void alike(String what, Consumer<BlockExchange> one, Consumer<BlockExchange> other) {
        List<Function<BlockExchange, List<Object>>> probes = List.of(
                this::bufferAndList, this::blocks, this::pins, this::kept, this::line, this::fetches, this::delivered);
        for (Function<BlockExchange, List<Object>> probe : probes) {
            BlockExchange first = new BlockExchange();
            way.accept(first);
            one.accept(first);
            BlockExchange second = new BlockExchange();
            way.accept(second);
            other.accept(second);
            check.same("what is asked for after " + what, probe.apply(first), probe.apply(second));
        }
    }

    private List<Object> bufferAndList(BlockExchange x) {
        List<Object> seen = new ArrayList<>();
        seen.add(x.name());
        for (int i = 0; i < 33; i++) {
            seen.add(x.type(9));
        }
        seen.add(x.name());
        for (int title = 240; title < 255; title++) {
            seen.add(x.entry(title, 1));
        }
        for (int store = 0; store < 3; store++) {
            seen.add(x.folder(store));
            seen.add(x.blocks(store));
        }
        return seen;
    }

    private List<Object> blocks(BlockExchange x) {
        List<Object> seen = new ArrayList<>();
        for (int store = 0; store < 3; store++) {
            seen.add(x.blocks(store));
            seen.add(x.state(store));
            for (int name : names) {
                int bytes = x.bytes(store, name);
                seen.add(bytes);
                for (int i = 0; i < bytes; i++) {
                    seen.add(x.raw(store, name, i));
                }
            }
        }
        return seen;
    }

    private List<Object> pins(BlockExchange x) {
        List<Object> seen = new ArrayList<>();
        for (int store = 0; store < 3; store++) {
            for (int name : names) {
                seen.add(x.pin(store, name, true, false));
                seen.add(x.pin(store, name, false, false));
            }
            seen.add(x.collect(store));
        }
        return seen;
    }

    private List<Object> kept(BlockExchange x) {
        List<Object> seen = new ArrayList<>();
        for (int store = 0; store < 3; store++) {
            seen.add(x.collect(store));
            for (int name : names) {
                seen.add(x.bytes(store, name));
            }
        }
        return seen;
    }

    private List<Object> line(BlockExchange x) {
        List<Object> seen = new ArrayList<>();
        seen.add(x.waiting());
        for (int k = 0; k < x.waiting(); k++) {
            for (int what = 0; what < 4; what++) {
                seen.add(x.message(k, what));
            }
        }
        return seen;
    }

    /** An empty line shows by what retry sends which root and which peer each fetch has. */
    private List<Object> fetches(BlockExchange x) {
        List<Object> seen = new ArrayList<>();
        for (int k = 0; k < 24; k++) {
            seen.add(x.harm(0, 0, 0));
        }
        for (int store = 0; store < 3; store++) {
            seen.add(x.state(store));
            seen.add(x.retry(store));
        }
        seen.addAll(line(x));
        return seen;
    }

    private List<Object> delivered(BlockExchange x) {
        List<Object> seen = new ArrayList<>();
        for (int i = 0; i < 80; i++) {
            seen.add(x.deliver(0));
        }
        seen.addAll(blocks(x));
        return seen;
    }
}
