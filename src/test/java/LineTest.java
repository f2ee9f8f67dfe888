/** Promises 19 (deliver), 20 (harm), 21 (message) and 22 (waiting). */
public final class LineTest {
    private static final Check check = new Check("LineTest");

    public static void main(String[] args) {
        wrongNumbers();
        anyOrder();
        losing();
        damaging();
        copies();
        fullLine();
        longestBlock();
        check.end();
    }

    private static void wrongNumbers() {
        BlockExchange x = new BlockExchange();
        check.due("waiting", x.waiting(), 0);
        check.due("deliver(0)", x.deliver(0), -1);
        check.due("harm(0, 0, 0)", x.harm(0, 0, 0), false);
        check.due("harm(0, 0, 1)", x.harm(0, 0, 1), false);
        check.due("message(0, 0)", x.message(0, 0), -1);
        x.fetch(0, 2, 77);
        check.due("waiting", x.waiting(), 1);
        check.due("deliver(1)", x.deliver(1), -1);
        check.due("deliver(-1)", x.deliver(-1), -1);
        check.due("deliver(least)", x.deliver(Integer.MIN_VALUE), -1);
        check.due("harm(1, 0, 0)", x.harm(1, 0, 0), false);
        check.due("harm(-1, 0, 0)", x.harm(-1, 0, 0), false);
        check.due("message(1, 0)", x.message(1, 0), -1);
        check.due("message(-1, 0)", x.message(-1, 0), -1);
        check.due("message(0, -1)", x.message(0, -1), -1);
        check.due("message(0, 4)", x.message(0, 4), -1);
        check.due("message(0, 0)", x.message(0, 0), 0);
        check.due("message(0, 1)", x.message(0, 1), 0);
        check.due("message(0, 2)", x.message(0, 2), 2);
        check.due("message(0, 3)", x.message(0, 3), 77);
        check.due("waiting", x.waiting(), 1);
    }

    private static void anyOrder() {
        BlockExchange x = new BlockExchange();
        int a = check.put(x, 0, Check.leaf(1));
        x.fetch(1, 0, a);
        x.fetch(2, 0, 5);
        x.fetch(0, 1, 6);
        check.due("deliver the middle", x.deliver(1), 0);
        check.due("first", x.message(0, 3), a);
        check.due("second", x.message(1, 3), 6);
        check.due("third", x.message(2, 3), 5);
        check.due("third is a NONE", x.message(2, 0), 2);
        check.due("to store 2", x.message(2, 2), 2);
        check.due("deliver the last", x.deliver(2), 2);
        check.due("state", x.state(2), 3);
        check.due("deliver the first", x.deliver(0), 0);
        check.due("the GIVE comes last", x.message(1, 0), 1);
        check.due("its name", x.message(1, 3), a);
        check.due("deliver it first", x.deliver(1), 1);
        check.due("state", x.state(1), 2);
        check.due("waiting", x.waiting(), 1);
        check.due("deliver", x.deliver(0), 0);
        check.due("deliver", x.deliver(0), 2);
        check.due("state", x.state(0), 3);
        check.due("waiting", x.waiting(), 0);
    }

    private static void losing() {
        BlockExchange x = new BlockExchange();
        int a = check.put(x, 0, Check.leaf(1));
        x.fetch(1, 0, a);
        x.fetch(2, 1, 5);
        check.due("lose the first, whatever i is", x.harm(0, -7, 0), true);
        check.due("waiting", x.waiting(), 1);
        check.due("the other one is first", x.message(0, 3), 5);
        check.due("state of the one that wants", x.state(1), 1);
        x.deliver(0);
        check.due("lose a NONE", x.harm(0, 99, 0), true);
        check.due("state", x.state(2), 1);
        x.retry(1);
        x.deliver(0);
        check.due("lose a GIVE", x.harm(0, 0, 0), true);
        check.due("waiting", x.waiting(), 0);
        check.due("blocks", x.blocks(1), 0);
    }

    private static void damaging() {
        BlockExchange x = new BlockExchange();
        int a = check.put(x, 0, Check.leaf(1, 200));
        x.fetch(1, 0, a);
        check.due("harm a WANT", x.harm(0, 0, 1), false);
        x.fetch(2, 1, 5);
        x.deliver(1);
        check.due("harm a NONE", x.harm(1, 0, 1), false);
        check.due("its name", x.message(1, 3), 5);
        x.harm(1, 0, 0);
        x.deliver(0);
        check.due("harm byte -1", x.harm(0, -1, 1), false);
        check.due("harm byte 3", x.harm(0, 3, 1), false);
        check.due("harm byte most", x.harm(0, Integer.MAX_VALUE, 1), false);
        check.due("name", x.message(0, 3), a);
        check.due("harm of 256", x.harm(0, 2, 256), true);
        check.due("name", x.message(0, 3), a);
        check.due("waiting", x.waiting(), 1);
        check.due("harm of -1", x.harm(0, 2, -1), true);
        check.due("name", x.message(0, 3), Check.nameOf(0, 1, 55));
        check.due("harm of 1023", x.harm(0, 2, 1023), true);
        check.due("name", x.message(0, 3), a);
        check.due("harm the form", x.harm(0, 0, 9), true);
        check.due("name", x.message(0, 3), Check.nameOf(9, 1, 200));
        check.due("kind", x.message(0, 0), 1);
        check.due("harm it back", x.harm(0, 0, 9), true);
        check.due("deliver", x.deliver(0), 1);
        check.hasBlock(x, 1, Check.leaf(1, 200));
    }

    private static void copies() {
        BlockExchange x = new BlockExchange();
        int a = check.put(x, 0, Check.leaf(1));
        x.fetch(1, 0, a);
        x.retry(1);
        x.deliver(0);
        x.deliver(0);
        check.due("harm one GIVE", x.harm(0, 1, 1), true);
        check.due("the other one is whole", x.message(1, 3), a);
        check.hasBlock(x, 0, Check.leaf(1));
        check.due("collect at the peer", x.collect(0), 1);
        check.put(x, 0, Check.leaf(9));
        check.due("deliver the other one", x.deliver(1), 1);
        check.hasBlock(x, 1, Check.leaf(1));
        check.due("harm the first one", x.harm(0, 1, 1), true);
        check.hasBlock(x, 1, Check.leaf(1));
    }

    private static void fullLine() {
        BlockExchange x = new BlockExchange();
        int leaf = check.put(x, 0, Check.leaf(1));
        int root = check.put(x, 0, Check.tree(1, leaf, 2, 200, 3, 300));
        x.fetch(1, 0, root);
        for (int i = 1; i < 24; i++) {
            check.due("retry", x.retry(1), 1);
            check.due("waiting", x.waiting(), i + 1);
        }
        check.due("retry, lost", x.retry(1), 1);
        check.due("waiting", x.waiting(), 24);
        check.due("fetch, lost", x.fetch(2, 0, 5), 1);
        check.due("state", x.state(2), 1);
        check.due("waiting", x.waiting(), 24);
        check.due("deliver", x.deliver(0), 0);
        check.due("waiting", x.waiting(), 24);
        check.due("the GIVE has room", x.message(23, 0), 1);
        check.due("deliver it", x.deliver(23), 1);
        check.due("blocks", x.blocks(1), 1);
        check.due("one WANT of three has room", x.waiting(), 24);
        check.due("the first of the walk", x.message(23, 3), leaf);
        check.due("retry", x.retry(1), 3);
        check.due("lose one", x.harm(3, 0, 0), true);
        check.due("waiting", x.waiting(), 23);
        check.due("retry", x.retry(1), 3);
        check.due("waiting", x.waiting(), 24);
        check.due("the first of the walk", x.message(23, 3), leaf);
        check.due("deliver(24)", x.deliver(24), -1);
    }

    private static void longestBlock() {
        BlockExchange x = new BlockExchange();
        int[] row = Check.tree(65535, 65520, 65534, 65519, 65533, 65518, 65532, 65517);
        int name = check.put(x, 2, row);
        x.fetch(0, 2, name);
        x.deliver(0);
        check.due("harm the last byte", x.harm(0, 17, 3), true);
        check.due("harm behind it", x.harm(0, 18, 3), false);
        check.due("harm it back", x.harm(0, 17, 3), true);
        check.due("deliver", x.deliver(0), 1);
        check.hasBlock(x, 0, row);
        check.due("waiting", x.waiting(), 4);
    }
}
