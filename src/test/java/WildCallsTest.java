import java.util.Random;

/** Whatever the arguments are, and long after the 512th call, every call ends and throws nothing. */
public final class WildCallsTest {
    private static final int[] EDGES = {
        Integer.MIN_VALUE, -65521, -1, 0, 1, 2, 3, 4, 8, 9, 24, 64, 255, 256, 5879, 37888, 65520, 65521,
        Integer.MAX_VALUE - 1, Integer.MAX_VALUE
    };
    private static final Check check = new Check("WildCallsTest");
    private static final Random random = new Random(1);

    public static void main(String[] args) {
        for (int run = 0; run < 100; run++) {
            BlockExchange x = new BlockExchange();
            for (int call = 0; call < 3000; call++) {
                anyCall(x, random.nextInt(23));
            }
            check.due("run " + run + " ended", true, true);
        }
        check.end();
    }

    private static int any() {
        return random.nextInt(3) == 0 ? EDGES[random.nextInt(EDGES.length)] : random.nextInt(4);
    }

    private static void anyCall(BlockExchange x, int which) {
        switch (which) {
            case 0: x.clear(); break;
            case 1: x.name(); break;
            case 2: x.put(any()); break;
            case 3: x.add(any(), any(), any()); break;
            case 4: x.entry(any(), any()); break;
            case 5: x.folder(any()); break;
            case 6: x.bytes(any(), any()); break;
            case 7: x.raw(any(), any(), any()); break;
            case 8: x.length(any(), any()); break;
            case 9: x.read(any(), any(), any()); break;
            case 10: x.find(any(), any(), any()); break;
            case 11: x.pin(any(), any(), random.nextBoolean(), random.nextBoolean()); break;
            case 12: x.collect(any()); break;
            case 13: x.blocks(any()); break;
            case 14: x.fetch(any(), any(), any()); break;
            case 15: x.retry(any()); break;
            case 16: x.deliver(any()); break;
            case 17: x.harm(any(), any(), any()); break;
            case 18: x.message(any(), any()); break;
            case 19: x.waiting(); break;
            case 20: x.state(any()); break;
            default: x.type(any());
        }
    }
}
