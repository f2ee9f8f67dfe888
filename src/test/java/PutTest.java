/** Promises 5 (put), 9 (bytes), 10 (raw) and 16 (blocks). */
public final class PutTest {
    private static final Check check = new Check("PutTest");

    public static void main(String[] args) {
        leaves();
        trees();
        folders();
        shards();
        noBlocks();
        comingIn();
        bytesAndRaw();
        nameZero();
        collisionOfOtherLength();
        check.end();
    }

    private static void good(int... bytes) {
        BlockExchange x = new BlockExchange();
        check.put(x, 1, bytes);
        check.due("name after put", x.name(), 40503);
        check.due("blocks", x.blocks(1), 1);
        check.hasBlock(x, 1, bytes);
    }

    private static void bad(int... bytes) {
        BlockExchange x = new BlockExchange();
        check.type(x, bytes);
        check.due("put of no block", x.put(1), -1);
        check.due("name after refusal", x.name(), Check.nameOf(bytes));
        check.due("blocks after refusal", x.blocks(1), 0);
    }

    private static void leaves() {
        good(0);
        good(0, 255);
        good(0, 1, 2, 3, 4, 5, 6, 7, 8);
        bad(0, 1, 2, 3, 4, 5, 6, 7, 8, 9);
    }

    private static void trees() {
        good(1, 1, 1, 0, 0, 0);
        good(Check.tree(65535, 65520));
        good(Check.tree(1, 2, 3, 4, 5, 6, 7, 8));
        good(Check.tree(256, 0, 1, 0));
        bad(1);
        bad(1, 0);
        bad(1, 1);
        bad(1, 1, 1, 0, 0);
        bad(1, 1, 1, 0, 0, 0, 0);
        bad(Check.tree(0, 5));
        bad(Check.tree(1, 5, 0, 5));
        bad(Check.tree(1, 65521));
        bad(Check.tree(1, 5, 1, 65535));
        bad(Check.tree(1, 2, 3, 4, 5, 6, 7, 8, 9, 10));
        bad(1, 255, 1, 0, 0, 0);
        bad(1, 2, 1, 0, 0, 0);
    }

    private static void folders() {
        good(2, 0);
        good(Check.folder(1, 0));
        good(Check.folder(255, 65520));
        good(Check.folder(1, 9, 2, 9, 254, 9, 255, 9));
        bad(2);
        bad(2, 1);
        bad(2, 0, 0);
        bad(2, 1, 7, 0);
        bad(2, 1, 7, 0, 0, 0);
        bad(Check.folder(0, 5));
        bad(Check.folder(7, 65521));
        bad(Check.folder(7, 5, 7, 5));
        bad(Check.folder(7, 5, 6, 5));
        bad(Check.folder(1, 5, 2, 5, 4, 5, 3, 5));
        bad(Check.folder(1, 5, 2, 5, 3, 5, 4, 5, 5, 5));
        bad(2, 2, 7, 0, 0);
    }

    private static void shards() {
        good(Check.shard(1, 0));
        good(Check.shard(8, 65520));
        good(Check.shard(10, 7, 7));
        good(Check.shard(15, 1, 2, 3, 4));
        bad(3);
        bad(3, 0);
        bad(3, 1);
        bad(3, 1, 0);
        bad(3, 1, 0, 0, 0);
        bad(Check.shard(16, 5));
        bad(Check.shard(17, 5, 5));
        bad(Check.shard(3, 5));
        bad(Check.shard(1, 5, 5));
        bad(Check.shard(1, 65521));
        bad(Check.shard(15, 1, 2, 3, 65521));
    }

    private static void noBlocks() {
        bad();
        bad(4);
        bad(255, 1);
        bad(4, 1, 1, 0, 0, 0);
        bad(new int[32]);
        BlockExchange x = new BlockExchange();
        check.type(x, 0, 5);
        check.due("put(-1)", x.put(-1), -1);
        check.due("put(3)", x.put(3), -1);
        check.due("put(least)", x.put(Integer.MIN_VALUE), -1);
        check.due("name after refusals", x.name(), Check.nameOf(0, 5));
    }

    private static void comingIn() {
        BlockExchange x = new BlockExchange();
        int name = check.put(x, 0, 0, 0, 0, 7);
        check.put(x, 0, 0, 0, 0, 7);
        check.due("blocks when put twice", x.blocks(0), 1);
        check.type(x, 0, 249, 34, 7);
        check.due("put at a collision", x.put(0), -2);
        check.due("name after a collision", x.name(), name);
        check.due("raw after a collision", x.raw(0, name, 1), 0);
        check.due("put in another store", x.put(2), name);
        check.due("raw there", x.raw(2, name, 1), 249);
        x.clear();
        check.fill(x, 0, 9, 63);
        check.due("put without room", check.tryPut(x, 0, 0, 8), -3);
        check.due("put of a block that is there, without room", check.tryPut(x, 0, 0, 0, 0, 7), name);
        check.due("collision without room", check.tryPut(x, 0, 0, 249, 34, 7), -2);
        check.due("no block without room", check.tryPut(x, 0, 5), -1);
        check.type(x, 0, 8);
        check.due("put without room", x.put(0), -3);
        check.due("name after no room", x.name(), Check.nameOf(0, 8));
        check.due("blocks of a full store", x.blocks(0), 64);
        check.due("blocks of the others", x.blocks(1), 0);
        check.due("blocks(-1)", x.blocks(-1), -1);
        check.due("blocks(3)", x.blocks(3), -1);
    }

    /** 0 is a name like any other: what comes in under it is no refusal. */
    private static void nameZero() {
        for (int code = 0; code < 1 << 24; code++) {
            int[] row = Check.leaf(code & 255, code >> 8 & 255, code >> 16);
            if (Check.nameOf(row) == 0) {
                BlockExchange x = new BlockExchange();
                check.put(x, 0, row);
                check.due("the buffer is empty after put", x.name(), 40503);
                check.type(x, row[1], row[2], row[3]);
                check.due("add", x.add(1, 3, 2), 0);
                check.due("the buffer is empty after add", x.name(), 40503);
                check.hasBlock(x, 1, row);
                check.due("fetch", x.fetch(2, 0, 0), 1);
                x.deliver(0);
                check.due("name", x.message(0, 3), 0);
                x.deliver(0);
                check.due("state", x.state(2), 2);
                return;
            }
        }
        check.due("a leaf of name 0 was found", 0, 1);
    }

    private static void collisionOfOtherLength() {
        int name = Check.nameOf(0, 0);
        for (int code = 0; code < 1 << 16; code++) {
            int[] row = Check.leaf(0, code & 255, code >> 8);
            if (Check.nameOf(row) == name) {
                BlockExchange x = new BlockExchange();
                check.put(x, 0, 0, 0);
                check.due("a longer one of that name", check.tryPut(x, 0, row), -2);
                check.put(x, 1, row);
                check.due("a shorter one of that name", check.tryPut(x, 1, 0, 0), -2);
                return;
            }
        }
        check.due("a collision was found", 0, 1);
    }

    private static void bytesAndRaw() {
        BlockExchange x = new BlockExchange();
        int name = check.put(x, 2, Check.tree(300, 65520, 5, 255));
        int[] row = {1, 2, 44, 1, 240, 255, 5, 0, 255, 0};
        check.hasBlock(x, 2, row);
        check.due("raw below", x.raw(2, name, -1), -1);
        check.due("raw behind", x.raw(2, name, 10), -1);
        check.due("raw far behind", x.raw(2, name, Integer.MAX_VALUE), -1);
        check.due("raw far below", x.raw(2, name, Integer.MIN_VALUE), -1);
        check.due("raw elsewhere", x.raw(1, name, 0), -1);
        check.due("raw, no store", x.raw(3, name, 0), -1);
        check.due("raw, no store", x.raw(-1, name, 0), -1);
        check.due("raw, no name", x.raw(2, name + 1, 0), -1);
        check.due("bytes elsewhere", x.bytes(0, name), -1);
        check.due("bytes, no store", x.bytes(3, name), -1);
        check.due("bytes, no store", x.bytes(-1, name), -1);
        check.due("bytes, no name", x.bytes(2, -1), -1);
        check.due("bytes, no name", x.bytes(2, name + 65521), -1);
        check.due("bytes, never used", x.bytes(2, 0), -1);
    }
}
