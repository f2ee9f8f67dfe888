/** The edges of what comes in: how many blocks there are, collisions, room; promises 5, 6, 8, 9, 10 and 16. */
public final class StoreEdgesTest {
    private static final Check check = new Check("StoreEdgesTest");
    private static final int[] NO_STORES = {-1, 3, 4, Integer.MIN_VALUE, Integer.MAX_VALUE};

    public static void main(String[] args) {
        storesAre0To2();
        aStoreHas64Blocks();
        aBlockThatIsThereComesIn();
        putAtACollision();
        aCollisionOfAnotherLength();
        aCollisionIsOfOneStore();
        addAtACollisionWithALeaf();
        addAtACollisionWithATree();
        addAtACollisionOfItsOwnBlocks();
        folderAtACollision();
        folderAtACollisionWithAShard();
        folderAtACollisionOfItsOwnBlocks();
        roomForPut();
        roomForAdd();
        roomForAddOfBlocksThatAreThere();
        roomForFolder();
        roomForShards();
        collisionWithoutRoom();
        theLargestFile();
        theName0();
        bytesOfABlock();
        rawBytes();
        blocksFrom0To64();
        check.end();
    }

    private static void storesAre0To2() {
        check.about("-1 if there is no such store (0 .. 2)");
        BlockExchange x = new BlockExchange();
        for (int store = 0; store < 3; store++) {
            check.put(x, store, 0, store);
            check.due("blocks", x.blocks(store), 1);
            check.type(x, 5);
            check.due("add", x.add(store, 8, 4), Check.nameOf(0, 5));
            check.due("folder", x.folder(store), Check.nameOf(2, 0));
            check.due("blocks", x.blocks(store), 3);
        }
        Still still = Still.busy(check);
        for (int store : NO_STORES) {
            still.refused("put(" + store + ")", y -> y.put(store), -1);
            still.refused("add(" + store + ", 1, 2)", y -> y.add(store, 1, 2), -1);
            still.refused("folder(" + store + ")", y -> y.folder(store), -1);
            still.refused("collect(" + store + ")", y -> y.collect(store), -1);
            still.refused("blocks(" + store + ")", y -> y.blocks(store), -1);
            still.refused("bytes(" + store + ", A)", y -> y.bytes(store, Still.A), -1);
            still.refused("raw(" + store + ", A, 0)", y -> y.raw(store, Still.A, 0), -1);
        }
    }

    private static void aStoreHas64Blocks() {
        check.about("A store has at most 64 blocks");
        for (int store = 0; store < 3; store++) {
            BlockExchange x = new BlockExchange();
            check.fillTo(x, store, 63);
            check.put(x, store, 0, 200);
            check.due("blocks", x.blocks(store), 64);
            check.due("the 65th", check.tryPut(x, store, 0, 201), -3);
            check.due("blocks", x.blocks(store), 64);
            check.due("the 65th is not there", x.bytes(store, Check.nameOf(0, 201)), -1);
            check.hasBlock(x, store, 0, 200);
            check.hasBlock(x, store, 0, 0);
            check.hasBlock(x, store, 0, 131);
            check.put(x, (store + 1) % 3, 0, 201);
        }
    }

    private static void aBlockThatIsThereComesIn() {
        check.about("comes in if it is there already with the same bytes (nothing changes)");
        BlockExchange x = new BlockExchange();
        check.put(x, 0, 0, 1);
        check.put(x, 0, 0, 1);
        check.due("blocks", x.blocks(0), 1);
        check.due("the buffer is empty", x.name(), 40503);
        check.type(x, 1);
        check.due("add", x.add(0, 0, 2), Check.nameOf(0, 1));
        check.due("blocks", x.blocks(0), 1);
        check.due("the buffer is empty", x.name(), 40503);
        check.put(x, 0, 2, 0);
        check.due("folder", x.folder(0), Check.nameOf(2, 0));
        check.due("blocks", x.blocks(0), 2);
        BlockExchange full = new BlockExchange();
        check.fillTo(full, 1, 64);
        check.put(full, 1, 0, 13);
        check.put(full, 1, 0, 100);
        check.due("blocks", full.blocks(1), 64);
        check.due("collect: one block for each name", full.collect(1), 64);
        Still still = Still.busy(check, y -> y.clear());
        still.alike("put of what is there", y -> check.put(y, 0, Check.tree(1, Still.A, 1, Still.B)), y -> { });
        still.alike("add of what is there", y -> {
            check.type(y, 1, 2);
            check.due("add", y.add(0, 1, 2), Still.TREE);
        }, y -> { });
        still.alike("folder of what is there", y -> {
            y.entry(5, Still.TREE);
            y.entry(9, Still.A);
            check.due("folder", y.folder(0), Still.FOLDER);
        }, y -> { });
    }

    private static void putAtACollision() {
        check.about("with other bytes of that name there it is a COLLISION; put: -2 at a collision");
        int[] row = Check.leaf(6, 221);
        int[] other = Check.twin(row, 1);
        for (int store = 0; store < 3; store++) {
            int to = store;
            Still still = Still.busy(check, x -> {
                check.put(x, to, row);
                check.type(x, other);
                x.entry(4, 4);
            }, Check.nameOf(row));
            still.refused("put(" + store + ")", x -> x.put(to), -2);
        }
        BlockExchange x = new BlockExchange();
        check.put(x, 0, other);
        check.due("the other way round", check.tryPut(x, 0, row), -2);
        check.hasBlock(x, 0, other);
        check.put(x, 0, 0, 6, 222);
        check.due("collect", x.collect(0), 2);
        check.put(x, 0, row);
        check.hasBlock(x, 0, row);
    }

    private static void aCollisionOfAnotherLength() {
        check.about("with other bytes of that name there it is a COLLISION (more or fewer of them)");
        int[] row = Check.leaf(0);
        for (int code = 0; code < 1 << 16; code++) {
            int[] longer = Check.leaf(0, code & 255, code >> 8);
            if (Check.nameOf(longer) == Check.nameOf(row)) {
                BlockExchange x = new BlockExchange();
                check.put(x, 0, row);
                check.put(x, 1, longer);
                check.due("a longer one", check.tryPut(x, 0, longer), -2);
                check.due("a shorter one", check.tryPut(x, 1, row), -2);
                check.hasBlock(x, 0, row);
                check.hasBlock(x, 1, longer);
                check.type(x, longer[1], longer[2], longer[3]);
                check.due("add of a longer one", x.add(0, 3, 2), -2);
                check.due("add where it is", x.add(1, 3, 2), Check.nameOf(row));
                return;
            }
        }
        check.due("a collision was found", 0, 1);
    }

    private static void aCollisionIsOfOneStore() {
        check.about("no two of them with one name; a block is THERE if the store has one of that name");
        int[] row = Check.leaf(0, 0, 7);
        int[] other = Check.twin(row, 1);
        BlockExchange x = new BlockExchange();
        check.put(x, 0, row);
        check.put(x, 1, other);
        check.hasBlock(x, 0, row);
        check.hasBlock(x, 1, other);
        check.due("bytes", x.bytes(2, Check.nameOf(row)), -1);
    }

    private static void addAtACollisionWithALeaf() {
        check.about("add: -2 if one of the blocks would be a collision, with a block there");
        int[] last = Check.leaf(3, 4);
        for (int fan = 2; fan <= 4; fan++) {
            int links = fan;
            Still still = Still.busy(check, x -> {
                check.put(x, 2, Check.twin(last, 1));
                check.type(x, 91, 92, 93, 94, 3, 4);
                x.entry(4, 4);
            }, Check.nameOf(last), Check.nameOf(0, 91, 92), Check.nameOf(0, 93, 94));
            still.refused("add(2, 2, " + fan + ")", x -> x.add(2, 2, links), -2);
        }
        BlockExchange x = new BlockExchange();
        check.put(x, 2, last);
        check.type(x, 91, 92, 93, 94, 3, 4);
        check.due("the same bytes are no collision", x.add(2, 2, 4) > 0, true);
        check.due("blocks", x.blocks(2), 4);
    }

    private static void addAtACollisionWithATree() {
        check.about("add: -2 if one of the blocks would be a collision, with a block there");
        int[] tree = Check.tree(2, Check.nameOf(0, 91, 92), 1, Check.nameOf(0, 93));
        // The first size is 2, and becomes 2 + 249 + 34 * 256.
        int[] other = Check.twin(tree, 2);
        Still still = Still.busy(check, x -> {
            check.put(x, 2, other);
            check.type(x, 91, 92, 93);
        }, Check.nameOf(tree), Check.nameOf(0, 91, 92), Check.nameOf(0, 93));
        still.refused("add(2, 2, 2)", x -> x.add(2, 2, 2), -2);
        BlockExchange x = new BlockExchange();
        check.put(x, 1, other);
        check.type(x, 91, 92, 93);
        check.due("add elsewhere", x.add(2, 2, 2), Check.nameOf(tree));
        check.due("blocks", x.blocks(2), 3);
    }

    private static void addAtACollisionOfItsOwnBlocks() {
        check.about("add: -2 if one of the blocks would be a collision, with another one of them");
        Still still = Still.busy(check, x -> {
            x.clear();
            check.type(x, 0, 0, 7, 249, 34, 7);
        }, Check.nameOf(0, 0, 0, 7));
        for (int store = 0; store < 3; store++) {
            int to = store;
            still.refused("add(" + store + ", 3, 2)", x -> x.add(to, 3, 2), -2);
        }
        // The first and the last of four pieces.
        Still apart = new Still(check, x -> check.type(x, 0, 0, 9, 9, 8, 8, 249, 34), Check.nameOf(0, 0, 0));
        apart.refused("add(0, 2, 4)", x -> x.add(0, 2, 4), -2);
        BlockExchange x = new BlockExchange();
        check.type(x, 0, 0, 7, 0, 0, 7);
        check.due("equal pieces are no collision", x.add(0, 3, 2) >= 0, true);
        check.due("blocks", x.blocks(0), 2);
        check.type(x, 0, 0, 7, 249, 35, 7);
        check.due("pieces of other names", x.add(1, 3, 2) >= 0, true);
        check.due("blocks", x.blocks(1), 3);
    }

    private static void folderAtACollision() {
        check.about("folder: Refused as with add. (a collision with a block there)");
        int[] folder = Check.folder(7, 0);
        Still still = Still.busy(check, x -> {
            check.put(x, 1, Check.twin(folder, 3));
            x.entry(7, 0);
            check.type(x, 1, 2);
        }, Check.nameOf(folder));
        still.refused("folder(1)", x -> x.folder(1), -2);
        BlockExchange x = new BlockExchange();
        check.put(x, 1, folder);
        x.entry(7, 0);
        check.due("the same bytes are no collision", x.folder(1), Check.nameOf(folder));
        check.due("blocks", x.blocks(1), 1);
        check.due("the list is empty", x.folder(1), Check.nameOf(2, 0));
    }

    /** Titles whose lowest two bits of (37 * title) modulo 256 are 0 are those that are divisible by 4. */
    private static void folderAtACollisionWithAShard() {
        check.about("folder: Refused as with add. (a collision with a block there)");
        // Title 1 has branch 1, titles 4 to 16 have branch 0: two folders under a shard of mask 3.
        for (int name = 0; name < 65521; name++) {
            int[] zero = Check.folder(4, 1, 8, 1, 12, 1, 16, name);
            int[] shard = Check.shard(3, Check.nameOf(zero), Check.nameOf(Check.folder(1, 1)));
            if (shard[2] <= 6 && shard[3] <= 221) {
                int last = name;
                Still still = Still.busy(check, x -> {
                    check.put(x, 2, Check.twin(shard, 2));
                    enter(x, last);
                }, Check.nameOf(shard), Check.nameOf(zero), Check.nameOf(Check.folder(1, 1)));
                still.refused("folder(2)", x -> x.folder(2), -2);
                BlockExchange x = new BlockExchange();
                enter(x, last);
                check.due("folder without it", x.folder(2), Check.nameOf(shard));
                return;
            }
        }
        check.due("such a shard was found", 0, 1);
    }

    private static void enter(BlockExchange x, int last) {
        for (int title : new int[] {1, 4, 8, 12}) {
            check.due("entry", x.entry(title, 1), true);
        }
        check.due("entry", x.entry(16, last), true);
    }

    private static void folderAtACollisionOfItsOwnBlocks() {
        check.about("folder: Refused as with add. (a collision with another one of them)");
        // Titles 1 and 250 have branches 1 and 2; their folders are one row but for 249 and 34.
        Still still = Still.busy(check, x -> {
            x.clear();
            enterTwins(x, 34);
        }, Check.nameOf(Check.folder(1, 0)));
        for (int store = 0; store < 3; store++) {
            int to = store;
            still.refused("folder(" + store + ")", x -> x.folder(to), -2);
        }
        BlockExchange x = new BlockExchange();
        enterTwins(x, 35);
        int name = x.folder(0);
        check.due("folders of other names: find", x.find(0, name, 250), 35);
        check.due("blocks", x.blocks(0), 4);
    }

    private static void enterTwins(BlockExchange x, int name) {
        check.due("entry", x.entry(1, 0), true);
        check.due("entry", x.entry(250, name), true);
        for (int title : new int[] {4, 8, 12}) {
            check.due("entry", x.entry(title, 1), true);
        }
    }

    private static void roomForPut() {
        check.about("put: -3 if there is no room");
        for (int store = 0; store < 3; store++) {
            int to = store;
            Still still = Still.busy(check, x -> {
                x.clear();
                bringTo(x, to, 64);
                check.type(x, 0, 201);
                x.entry(4, 4);
            }, Check.nameOf(0, 201));
            still.refused("put(" + store + ")", x -> x.put(to), -3);
        }
        BlockExchange x = new BlockExchange();
        check.fillTo(x, 0, 63);
        check.put(x, 0, 0, 201);
    }

    /** From the busy object: a store gets a file of 50 blocks and then leaves of one byte, from 20 on. */
    private static void bringTo(BlockExchange x, int store, int blocks) {
        for (int b = 100; b < 132; b++) {
            check.due("type", x.type(b), true);
        }
        x.add(store, 1, 3);
        int there = x.blocks(store);
        for (int b = 0; b < blocks - there; b++) {
            check.type(x, 0, 20 + b);
            x.put(store);
        }
        check.due("blocks", x.blocks(store), blocks);
    }

    private static void roomForAdd() {
        check.about("add: -3 if there is no room for all");
        // 141 and 142 make two leaves and a tree.
        BlockExchange x = new BlockExchange();
        check.fillTo(x, 0, 61);
        check.type(x, 141, 142);
        int name = x.add(0, 1, 2);
        check.due("blocks", x.blocks(0), 64);
        check.due("read", x.read(0, name, 1), 142);
        for (int blocks = 62; blocks <= 64; blocks++) {
            int there = blocks;
            Still still = Still.busy(check, y -> {
                y.clear();
                bringTo(y, 2, there);
                check.type(y, 141, 142);
            }, name, Check.nameOf(0, 141), Check.nameOf(0, 142));
            still.refused("add(2, 1, 2) at " + blocks, y -> y.add(2, 1, 2), -3);
        }
        // One leaf alone, and no bytes at all.
        BlockExchange full = new BlockExchange();
        check.fillTo(full, 1, 63);
        check.type(full, 141);
        check.due("add of one leaf", full.add(1, 1, 2), Check.nameOf(0, 141));
        check.due("add of no bytes without room", full.add(1, 1, 2), -3);
    }

    private static void roomForAddOfBlocksThatAreThere() {
        check.about("A block that is to come in comes in if it is there already; add: -3 if there is no room for all");
        // The equal pieces are one block, so that two blocks come in.
        BlockExchange x = new BlockExchange();
        check.fillTo(x, 0, 62);
        check.type(x, 141, 141);
        check.due("equal pieces", x.add(0, 1, 2), Check.nameOf(Check.tree(1, Check.nameOf(0, 141), 1, Check.nameOf(0, 141))));
        check.due("blocks", x.blocks(0), 64);
        // A tree over leaves that are there is one block.
        BlockExchange y = new BlockExchange();
        check.fillTo(y, 0, 63);
        check.type(y, 3, 5);
        check.due("leaves that are there", y.add(0, 1, 2), Check.nameOf(Check.tree(1, Check.nameOf(0, 3), 1, Check.nameOf(0, 5))));
        check.due("blocks", y.blocks(0), 64);
        check.type(y, 3, 5);
        check.due("all is there", y.add(0, 1, 2) >= 0, true);
        check.type(y, 5, 3);
        check.due("one is not", y.add(0, 1, 2), -3);
        check.due("blocks", y.blocks(0), 64);
        check.due("name", y.name(), Check.nameOf(5, 3));
    }

    private static void roomForFolder() {
        check.about("folder: Refused as with add. (no room)");
        BlockExchange x = new BlockExchange();
        check.fillTo(x, 0, 63);
        x.entry(4, 4);
        check.due("folder", x.folder(0), Check.nameOf(Check.folder(4, 4)));
        x.entry(4, 4);
        check.due("one that is there", x.folder(0), Check.nameOf(Check.folder(4, 4)));
        check.due("an empty one", x.folder(0), -3);
        Still still = Still.busy(check, y -> {
            y.clear();
            bringTo(y, 2, 64);
            y.entry(4, 4);
            check.type(y, 1, 2);
        }, Check.nameOf(Check.folder(4, 4)));
        still.refused("folder(2)", y -> y.folder(2), -3);
    }

    private static void roomForShards() {
        check.about("folder: Refused as with add. (no room for all)");
        // Five titles of branches 0 and 1: two folders under a shard.
        int shard = Check.nameOf(Check.shard(3, Check.nameOf(Check.folder(4, 1, 8, 1, 12, 1, 16, 5)),
                Check.nameOf(Check.folder(1, 1))));
        BlockExchange x = new BlockExchange();
        check.fillTo(x, 0, 61);
        enter(x, 5);
        check.due("folder", x.folder(0), shard);
        check.due("blocks", x.blocks(0), 64);
        for (int blocks = 62; blocks <= 64; blocks++) {
            int there = blocks;
            Still still = Still.busy(check, y -> {
                y.clear();
                bringTo(y, 2, there);
                enter(y, 5);
            }, shard, Check.nameOf(Check.folder(1, 1)));
            still.refused("folder(2) at " + blocks, y -> y.folder(2), -3);
        }
        BlockExchange y = new BlockExchange();
        check.fillTo(y, 0, 61);
        check.put(y, 0, Check.folder(1, 1));
        enter(y, 5);
        check.due("one of the folders is there", y.folder(0), shard);
        check.due("blocks", y.blocks(0), 64);
    }

    private static void collisionWithoutRoom() {
        check.about("put: -1 if they are no block; -2 at a collision; -3 if there is no room");
        BlockExchange x = new BlockExchange();
        check.put(x, 0, 0, 6, 221);
        // 34 calls and 13 leaves of three calls each.
        for (int b = 100; b < 132; b++) {
            x.type(b);
        }
        x.add(0, 1, 3);
        for (int b = 0; b < 13; b++) {
            check.type(x, 0, b);
            x.put(0);
        }
        check.due("blocks", x.blocks(0), 64);
        check.due("no block", check.tryPut(x, 0, 4), -1);
        check.due("a collision", check.tryPut(x, 0, 0, 255, 255), -2);
        check.due("no room", check.tryPut(x, 0, 0, 255, 254), -3);
        check.due("there", check.tryPut(x, 0, 0, 6, 221), Check.nameOf(0, 6, 221));
        check.type(x, 255, 255);
        check.due("add, a collision", x.add(0, 2, 2), -2);
        check.due("add, no room", x.add(0, 1, 2), -3);
        check.due("add, no such fan", x.add(0, 1, 1), -1);
        check.due("name", x.name(), Check.nameOf(255, 255));
        check.due("blocks", x.blocks(0), 64);
    }

    /** 32 pieces under trees of two links are 63 blocks, the most that one call can bring. */
    private static void theLargestFile() {
        check.about("The BUFFER has at most 32 bytes; A store has at most 64 blocks; -3 if there is no room for all");
        for (int before = 0; before <= 2; before++) {
            BlockExchange x = new BlockExchange();
            for (int i = 0; i < before; i++) {
                check.put(x, 0, 0, 1, i);
            }
            for (int b = 32; b < 64; b++) {
                check.type(x, b);
            }
            int name = x.add(0, 1, 2);
            check.due("blocks", x.blocks(0), before < 2 ? before + 63 : 2);
            check.due("add", before < 2 ? Math.min(0, name) : name, before < 2 ? 0 : -3);
            for (int p = 0; p < 32 && before < 2; p++) {
                check.due("read", x.read(0, name, p), 32 + p);
            }
        }
    }

    /** The least name is one like any other, and no refusal. */
    private static void theName0() {
        check.about("links are names, 0 .. 65520; put, add, folder: its name, and the buffer or the list becomes empty");
        for (int code = 0; code < 255 * 65521; code++) {
            int[] row = Check.folder(1 + code / 65521, code % 65521);
            if (Check.nameOf(row) == 0) {
                BlockExchange x = new BlockExchange();
                check.type(x, row);
                check.due("put", x.put(0), 0);
                check.due("the buffer is empty", x.name(), 40503);
                x.entry(row[2], code % 65521);
                check.due("folder", x.folder(1), 0);
                check.due("the list is empty", x.folder(1), Check.nameOf(2, 0));
                check.hasBlock(x, 0, row);
                check.hasBlock(x, 1, row);
                check.due("find", x.find(1, 0, row[2]), code % 65521);
                check.due("pin", x.pin(1, 0, true, true), true);
                check.due("collect", x.collect(1), 1);
                break;
            }
        }
        for (int code = 0; code < 1 << 24; code++) {
            int[] row = Check.leaf(code & 255, code >> 8 & 255, code >> 16);
            if (Check.nameOf(row) == 0) {
                BlockExchange x = new BlockExchange();
                check.type(x, row[1], row[2], row[3]);
                check.due("add", x.add(2, 8, 2), 0);
                check.due("the buffer is empty", x.name(), 40503);
                check.due("read", x.read(2, 0, 2), row[3]);
                return;
            }
        }
        check.due("a leaf of the name 0 was found", 0, 1);
    }

    private static void bytesOfABlock() {
        check.about("bytes: How many bytes the block of a name has; -1 if there is no such store or it is not there.");
        BlockExchange x = new BlockExchange();
        int least = check.put(x, 1, 0);
        int most = check.put(x, 1, Check.tree(1, 2, 3, 4, 5, 6, 7, 8));
        check.due("bytes of an empty leaf", x.bytes(1, least), 1);
        check.due("bytes of the longest tree", x.bytes(1, most), 18);
        check.due("bytes elsewhere", x.bytes(0, least), -1);
        check.due("bytes elsewhere", x.bytes(2, least), -1);
        for (int name : new int[] {0, 65520, -1, 65521, least + 65521, least - 65521, least + 65536, least ^ 1}) {
            check.due("bytes of " + name, x.bytes(1, name), -1);
            check.due("raw of " + name, x.raw(1, name, 0), -1);
        }
        check.due("collect", x.collect(1), 2);
        check.due("bytes of what is gone", x.bytes(1, least), -1);
    }

    private static void rawBytes() {
        check.about("raw: Byte i of a block; -1 if it is not there or has no such byte.");
        BlockExchange x = new BlockExchange();
        int[][] rows = {{0}, {0, 255}, {2, 0}, Check.tree(65535, 65520, 2, 3, 4, 5, 6, 7)};
        for (int[] row : rows) {
            int name = check.put(x, 2, row);
            check.due("raw(first)", x.raw(2, name, 0), row[0]);
            check.due("raw(last)", x.raw(2, name, row.length - 1), row[row.length - 1]);
            check.due("raw(behind the last)", x.raw(2, name, row.length), -1);
            check.due("raw(-1)", x.raw(2, name, -1), -1);
            check.due("raw(least)", x.raw(2, name, Integer.MIN_VALUE), -1);
            check.due("raw(most)", x.raw(2, name, Integer.MAX_VALUE), -1);
            check.due("raw elsewhere", x.raw(0, name, 0), -1);
        }
        // A shorter block in the place of a longer one that is gone has none of its bytes.
        check.due("collect", x.collect(2), 4);
        for (int i = 0; i < 4; i++) {
            int name = check.put(x, 2, 0, i);
            check.due("raw behind", x.raw(2, name, 2), -1);
        }
        check.due("raw of what is gone", x.raw(2, Check.nameOf(0), 0), -1);
    }

    private static void blocksFrom0To64() {
        check.about("blocks: How many blocks a store has; -1 if there is none such.");
        BlockExchange x = new BlockExchange();
        for (int i = 0; i < 64; i++) {
            check.due("blocks", x.blocks(1), i);
            check.type(x, 0, i);
            x.put(1);
        }
        check.due("blocks", x.blocks(1), 64);
        check.due("blocks", x.blocks(0), 0);
        check.due("blocks", x.blocks(2), 0);
        check.due("blocks(-1)", x.blocks(-1), -1);
        check.due("blocks(3)", x.blocks(3), -1);
    }
}
