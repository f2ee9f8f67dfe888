/**
 * Three stores of blocks that are named by a hash of their bytes, with files, folders, pins and
 * fetches over a line of messages that may be lost, mixed up or damaged.
 *
 * Every row that a call needs is made in the constructor and used again: no call makes an object.
 */
public final class BlockExchange {
    private static final int STORES = 3;
    private static final int STORE_BLOCKS = 64;
    private static final int BUFFER_BYTES = 32;
    private static final int LIST_TITLES = 16;
    private static final int PINS = 8;
    private static final int MESSAGES = 24;

    private static final int FIRST_HASH = 40503;
    private static final int HASH_FACTOR = 263;
    private static final int HASH_MODULUS = 65521;
    private static final int LAST_NAME = 65520;
    private static final int LAST_BYTE = 255;
    private static final int LAST_TITLE = 255;

    private static final int LEAF = 0;
    private static final int TREE = 1;
    private static final int FOLDER = 2;
    private static final int SHARD = 3;
    private static final int LEAF_CONTENT = 8;
    private static final int MOST_LINKS = 4;
    private static final int FULL_MASK = 15;
    /** The longest form is a tree of four links. */
    private static final int BLOCK_BYTES = 18;

    private static final int LEAST_FAN = 2;
    private static final int CUT_DIVISOR = 5;
    private static final int MOST_FOLLOWED = 10;
    private static final int SHARD_LEVELS = 4;

    private static final int WANT = 0;
    private static final int GIVE = 1;
    private static final int NONE = 2;

    private static final int NO_FETCH = 0;
    private static final int RUNNING = 1;
    private static final int DONE = 2;
    private static final int FAILED = 3;

    private static final int NOTHING = -1;
    private static final int REFUSED = -1;
    private static final int COLLISION = -2;
    private static final int BROKEN = -2;
    private static final int NO_ROOM = -3;

    /** The root and every link of every block of a store: no walk meets more names. */
    private static final int WALK_NAMES = 1 + STORE_BLOCKS * MOST_LINKS;

    private final Row buffer;
    private final Listing list;
    private final Store[] stores;
    private final Plan plan;
    private final Line line;
    private final Walk before;
    private final Walk now;

    public BlockExchange() {
        buffer = new Row(BUFFER_BYTES);
        list = new Listing();
        stores = new Store[STORES];
        for (int i = 0; i < STORES; i++) {
            stores[i] = new Store(i);
        }
        plan = new Plan();
        line = new Line();
        before = new Walk();
        now = new Walk();
    }

    public boolean type(int b) {
        return b >= 0 && b <= LAST_BYTE && buffer.append(b);
    }

    public void clear() {
        buffer.empty();
        list.empty();
    }

    public int name() {
        return buffer.hash();
    }

    public int put(int store) {
        Store target = storeAt(store);
        if (target == null || !Form.isBlock(buffer)) {
            return REFUSED;
        }
        plan.empty();
        int at = plan.open();
        plan.rowAt(at).become(buffer);
        return emptyBufferIfIn(bringIn(target, plan.seal(at)));
    }

    public int add(int store, int chunk, int fan) {
        Store target = storeAt(store);
        if (target == null || chunk < 0 || chunk > LEAF_CONTENT || fan < LEAST_FAN || fan > MOST_LINKS) {
            return REFUSED;
        }
        plan.empty();
        planLeaves(chunk);
        return emptyBufferIfIn(bringIn(target, planTrees(fan)));
    }

    public boolean entry(int title, int name) {
        return title >= 1 && title <= LAST_TITLE && isName(name) && list.enter(title, name);
    }

    public int folder(int store) {
        Store target = storeAt(store);
        if (target == null) {
            return REFUSED;
        }
        plan.empty();
        int answer = bringIn(target, planGroup(0, 0));
        if (answer >= 0) {
            list.empty();
        }
        return answer;
    }

    public int bytes(int store, int name) {
        Row block = blockAt(store, name);
        return block == null ? NOTHING : block.size();
    }

    public int raw(int store, int name, int i) {
        Row block = blockAt(store, name);
        return block == null ? NOTHING : block.at(i);
    }

    public int length(int store, int name) {
        Row block = blockAt(store, name);
        return block == null || !Form.isFile(block) ? NOTHING : Form.fileLength(block);
    }

    public int read(int store, int name, int p) {
        Row block = blockAt(store, name);
        if (block == null || !Form.isFile(block) || p < 0 || p >= Form.fileLength(block)) {
            return NOTHING;
        }
        int rest = p;
        for (int followed = 0; followed <= MOST_FOLLOWED; followed++) {
            if (block.at(0) == LEAF) {
                return block.at(1 + rest);
            }
            int part = Form.partWith(block, rest);
            rest -= Form.startOfPart(block, part);
            Row next = blockAt(store, Form.linkAt(block, part));
            if (next == null || !Form.isFile(next) || Form.fileLength(next) != Form.sizeAt(block, part)) {
                return BROKEN;
            }
            block = next;
        }
        return BROKEN;
    }

    public int find(int store, int name, int title) {
        Row block = blockAt(store, name);
        if (block == null || !Form.isDirectory(block)) {
            return NOTHING;
        }
        for (int s = 0; s < SHARD_LEVELS && block.at(0) == SHARD; s++) {
            int link = Form.linkOfBranch(block, branchOf(title, s));
            if (link < 0) {
                return NOTHING;
            }
            block = blockAt(store, link);
            if (block == null || !Form.isDirectory(block)) {
                return BROKEN;
            }
        }
        return block.at(0) == FOLDER ? Form.linkOfTitle(block, title) : BROKEN;
    }

    public boolean pin(int store, int name, boolean deep, boolean on) {
        Store target = storeAt(store);
        if (target == null) {
            return false;
        }
        return on ? target.setPin(name, deep) : target.dropPin(name, deep);
    }

    public int collect(int store) {
        Store target = storeAt(store);
        if (target == null) {
            return REFUSED;
        }
        now.restart();
        target.walkKept(now);
        return target.sweep(now);
    }

    public int blocks(int store) {
        Store target = storeAt(store);
        return target == null ? REFUSED : target.size();
    }

    public int fetch(int store, int peer, int name) {
        Store target = storeAt(store);
        if (target == null || storeAt(peer) == null || store == peer || !isName(name)) {
            return REFUSED;
        }
        target.startFetch(peer, name);
        return askForMissing(target);
    }

    public int retry(int store) {
        Store target = storeAt(store);
        return target == null || !target.isFetching() ? REFUSED : askForMissing(target);
    }

    public int deliver(int k) {
        Message message = line.take(k);
        if (message == null) {
            return NOTHING;
        }
        if (message.kind == WANT) {
            answerWant(message);
        } else if (message.kind == GIVE) {
            acceptGive(message);
        } else {
            acceptNone(message);
        }
        return message.kind;
    }

    public boolean harm(int k, int i, int x) {
        if (x == 0) {
            return line.take(k) != null;
        }
        Message message = line.at(k);
        return message != null && message.kind == GIVE && message.content.flip(i, x & LAST_BYTE);
    }

    public int message(int k, int what) {
        Message message = line.at(k);
        if (message == null) {
            return NOTHING;
        }
        switch (what) {
            case 0:
                return message.kind;
            case 1:
                return message.sender;
            case 2:
                return message.receiver;
            case 3:
                return message.currentName();
            default:
                return NOTHING;
        }
    }

    public int waiting() {
        return line.size();
    }

    public int state(int store) {
        Store target = storeAt(store);
        return target == null ? REFUSED : target.fetchState;
    }

    private Store storeAt(int store) {
        return store < 0 || store >= STORES ? null : stores[store];
    }

    private Row blockAt(int store, int name) {
        Store target = storeAt(store);
        return target == null ? null : target.blockOf(name);
    }

    private static boolean isName(int number) {
        return number >= 0 && number <= LAST_NAME;
    }

    /** Which of a shard's four links a title takes, s links down. */
    private static int branchOf(int title, int s) {
        return (((37 * title) & LAST_BYTE) >> (2 * s)) & 3;
    }

    /** All planned blocks come in, or none: the name of the root, or why not. */
    private int bringIn(Store target, int root) {
        int verdict = plan.verdictFor(target);
        if (verdict < 0) {
            return verdict;
        }
        plan.copyInto(target);
        settle(target);
        return root;
    }

    private int emptyBufferIfIn(int answer) {
        if (answer >= 0) {
            buffer.empty();
        }
        return answer;
    }

    private void planLeaves(int chunk) {
        int at = plan.openAs(LEAF);
        int piece = 0;
        for (int i = 0; i < buffer.size(); i++) {
            plan.rowAt(at).append(buffer.at(i));
            piece++;
            if (i + 1 < buffer.size() && isCutBehind(i, piece, chunk)) {
                plan.seal(at);
                at = plan.openAs(LEAF);
                piece = 0;
            }
        }
        plan.seal(at);
    }

    /** Whether a piece that has got so many bytes, the last of them byte i of the buffer, ends there. */
    private boolean isCutBehind(int i, int piece, int chunk) {
        if (chunk > 0) {
            return piece == chunk;
        }
        if (piece < 2) {
            return false;
        }
        return piece == LEAF_CONTENT || (buffer.at(i) + 3 * buffer.at(i - 1)) % CUT_DIVISOR == 0;
    }

    /** Joins the planned leaves by trees, level by level; the name of the last one. */
    private int planTrees(int fan) {
        int from = 0;
        int end = plan.size();
        for (int level = 0; level < BUFFER_BYTES && end - from > 1; level++) {
            for (int i = from; i < end; i += fan) {
                planTree(i, Math.min(i + fan, end));
            }
            from = end;
            end = plan.size();
        }
        return plan.nameAt(from);
    }

    private void planTree(int from, int end) {
        int at = plan.openAs(TREE);
        Row tree = plan.rowAt(at);
        tree.append(end - from);
        for (int i = from; i < end; i++) {
            tree.appendPair(Form.fileLength(plan.rowAt(i)));
            tree.appendPair(plan.nameAt(i));
        }
        plan.seal(at);
    }

    /** Plans the block of the listed titles whose first s branches are the bits of the path. */
    private int planGroup(int s, int path) {
        if (s >= SHARD_LEVELS || list.groupSize(s, path) <= MOST_LINKS) {
            int at = plan.openAs(FOLDER);
            list.writeGroup(plan.rowAt(at), s, path);
            return plan.seal(at);
        }
        int at = plan.openAs(SHARD);
        plan.rowAt(at).append(list.maskOf(s, path));
        for (int b = 0; b < MOST_LINKS; b++) {
            int longer = path | (b << (2 * s));
            if (list.groupSize(s + 1, longer) > 0) {
                plan.rowAt(at).appendPair(planGroup(s + 1, longer));
            }
        }
        return plan.seal(at);
    }

    /** Walks a store's running fetch and ends it if nothing is missing. */
    private void settle(Store store) {
        now.restart();
        if (!store.isFetching()) {
            return;
        }
        now.follow(store, store.root);
        if (now.missingCount() == 0) {
            store.fetchState = DONE;
        }
    }

    private int askForMissing(Store store) {
        settle(store);
        for (int i = 0; i < now.missingCount(); i++) {
            sendWant(store, now.missingAt(i));
        }
        return now.missingCount();
    }

    private void sendWant(Store store, int name) {
        line.send(WANT, store.number, store.peer, name);
    }

    private void answerWant(Message want) {
        Row block = blockAt(want.receiver, want.name);
        if (block == null) {
            line.send(NONE, want.receiver, want.sender, want.name);
        } else {
            line.sendCopy(block, want.receiver, want.sender);
        }
    }

    private void acceptNone(Message none) {
        Store store = storeAt(none.receiver);
        if (store != null && isAwaited(store, none.sender, none.name)) {
            store.fetchState = FAILED;
        }
    }

    private void acceptGive(Message give) {
        Store store = storeAt(give.receiver);
        int name = give.currentName();
        if (store == null || !Form.isBlock(give.content) || !isAwaited(store, give.sender, name)) {
            return;
        }
        if (!store.insert(give.content, name)) {
            store.fetchState = FAILED;
            return;
        }
        settle(store);
        for (int i = 0; i < now.missingCount(); i++) {
            int missing = now.missingAt(i);
            if (!before.isMissing(missing)) {
                sendWant(store, missing);
            }
        }
    }

    /** Whether a name is missing for a fetch from that peer; leaves in before what is missing. */
    private boolean isAwaited(Store store, int peer, int name) {
        if (!store.isFetching() || store.peer != peer) {
            return false;
        }
        before.restart();
        before.follow(store, store.root);
        return before.isMissing(name);
    }

    /** A row of bytes: the buffer, a block, or what a message carries. */
    private static final class Row {
        private final int[] bytes;
        private int count;

        Row(int capacity) {
            bytes = new int[capacity];
            count = 0;
        }

        int size() {
            return count;
        }

        void empty() {
            count = 0;
        }

        /** Byte i, or NOTHING if the row has no such byte. */
        int at(int i) {
            return i < 0 || i >= count ? NOTHING : bytes[i];
        }

        boolean append(int b) {
            if (count >= bytes.length) {
                return false;
            }
            bytes[count] = b;
            count++;
            return true;
        }

        void appendPair(int number) {
            append(number & LAST_BYTE);
            append((number >> 8) & LAST_BYTE);
        }

        /** The number in bytes i and i + 1, or NOTHING if the row has not both of them. */
        int pairAt(int i) {
            return i < 0 || i >= count - 1 ? NOTHING : bytes[i] + (bytes[i + 1] << 8);
        }

        boolean flip(int i, int bits) {
            if (i < 0 || i >= count) {
                return false;
            }
            bytes[i] ^= bits;
            return true;
        }

        void become(Row other) {
            count = Math.min(other.count, bytes.length);
            System.arraycopy(other.bytes, 0, bytes, 0, count);
        }

        boolean isSameAs(Row other) {
            if (count != other.count) {
                return false;
            }
            for (int i = 0; i < count; i++) {
                if (bytes[i] != other.bytes[i]) {
                    return false;
                }
            }
            return true;
        }

        int hash() {
            int h = FIRST_HASH;
            for (int i = 0; i < count; i++) {
                h = (HASH_FACTOR * h + bytes[i] + 1) % HASH_MODULUS;
            }
            return h;
        }
    }

    /** What the bytes of a row mean as a block. */
    private static final class Form {
        static boolean isBlock(Row row) {
            switch (row.at(0)) {
                case LEAF:
                    return row.size() <= 1 + LEAF_CONTENT;
                case TREE:
                    return row.at(1) >= 1 && hasWholeLinks(row) && hasSizes(row);
                case FOLDER:
                    return row.at(1) >= 0 && hasWholeLinks(row) && hasRisingTitles(row);
                case SHARD:
                    return row.at(1) >= 1 && row.at(1) <= FULL_MASK && hasWholeLinks(row);
                default:
                    return false;
            }
        }

        private static boolean hasWholeLinks(Row row) {
            int links = linkCount(row);
            if (links > MOST_LINKS || row.size() != 2 + links * stride(row.at(0))) {
                return false;
            }
            for (int i = 0; i < links; i++) {
                if (!isName(linkAt(row, i))) {
                    return false;
                }
            }
            return true;
        }

        private static boolean hasSizes(Row tree) {
            for (int i = 0; i < linkCount(tree); i++) {
                if (sizeAt(tree, i) < 1) {
                    return false;
                }
            }
            return true;
        }

        private static boolean hasRisingTitles(Row folder) {
            int last = 0;
            for (int i = 0; i < linkCount(folder); i++) {
                if (titleAt(folder, i) <= last) {
                    return false;
                }
                last = titleAt(folder, i);
            }
            return true;
        }

        static boolean isFile(Row block) {
            return block.at(0) == LEAF || block.at(0) == TREE;
        }

        static boolean isDirectory(Row block) {
            return block.at(0) == FOLDER || block.at(0) == SHARD;
        }

        static int linkCount(Row block) {
            if (block.at(0) == LEAF) {
                return 0;
            }
            return block.at(0) == SHARD ? Integer.bitCount(block.at(1)) : block.at(1);
        }

        /** How many bytes each link of a form takes, with the size or title before it. */
        private static int stride(int form) {
            if (form == TREE) {
                return 4;
            }
            return form == FOLDER ? 3 : 2;
        }

        static int linkAt(Row block, int i) {
            int end = 2 + (i + 1) * stride(block.at(0));
            return block.pairAt(end - 2);
        }

        static int sizeAt(Row tree, int i) {
            return tree.pairAt(2 + 4 * i);
        }

        private static int titleAt(Row folder, int i) {
            return folder.at(2 + 3 * i);
        }

        static int fileLength(Row file) {
            return file.at(0) == LEAF ? file.size() - 1 : startOfPart(file, linkCount(file));
        }

        /** The sum of the sizes before a part of a tree. */
        static int startOfPart(Row tree, int part) {
            int start = 0;
            for (int i = 0; i < part; i++) {
                start += sizeAt(tree, i);
            }
            return start;
        }

        /** The part of a tree that has byte p, which is below the tree's length. */
        static int partWith(Row tree, int p) {
            int part = 0;
            int end = sizeAt(tree, 0);
            while (part < MOST_LINKS - 1 && end <= p) {
                part++;
                end += sizeAt(tree, part);
            }
            return part;
        }

        static int linkOfTitle(Row folder, int title) {
            for (int i = 0; i < linkCount(folder); i++) {
                if (titleAt(folder, i) == title) {
                    return linkAt(folder, i);
                }
            }
            return NOTHING;
        }

        static int linkOfBranch(Row shard, int b) {
            int bit = 1 << b;
            int mask = shard.at(1);
            return (mask & bit) == 0 ? NOTHING : linkAt(shard, Integer.bitCount(mask & (bit - 1)));
        }
    }

    /** The titles that are to become a folder, in rising order. */
    private static final class Listing {
        private final int[] titles = new int[LIST_TITLES];
        private final int[] names = new int[LIST_TITLES];
        private int count = 0;

        void empty() {
            count = 0;
        }

        boolean enter(int title, int name) {
            int at = 0;
            while (at < count && titles[at] < title) {
                at++;
            }
            if (at < count && titles[at] == title) {
                names[at] = name;
                return true;
            }
            if (count >= LIST_TITLES) {
                return false;
            }
            for (int i = count; i > at; i--) {
                titles[i] = titles[i - 1];
                names[i] = names[i - 1];
            }
            titles[at] = title;
            names[at] = name;
            count++;
            return true;
        }

        /** Whether the first s branches of a title are the bits of the path. */
        private boolean isInGroup(int i, int s, int path) {
            int taken = 0;
            for (int level = 0; level < s; level++) {
                taken |= branchOf(titles[i], level) << (2 * level);
            }
            return taken == path;
        }

        int groupSize(int s, int path) {
            int size = 0;
            for (int i = 0; i < count; i++) {
                if (isInGroup(i, s, path)) {
                    size++;
                }
            }
            return size;
        }

        /** The branches that the titles of a group take s links down. */
        int maskOf(int s, int path) {
            int mask = 0;
            for (int i = 0; i < count; i++) {
                if (isInGroup(i, s, path)) {
                    mask |= 1 << branchOf(titles[i], s);
                }
            }
            return mask;
        }

        /** Writes a group behind the form's first byte. */
        void writeGroup(Row folder, int s, int path) {
            folder.append(groupSize(s, path));
            for (int i = 0; i < count; i++) {
                if (isInGroup(i, s, path)) {
                    folder.append(titles[i]);
                    folder.appendPair(names[i]);
                }
            }
        }
    }

    /** Blocks that are to come into a store together or not at all. */
    private static final class Plan {
        /** 32 leaves under trees of two links are 63 blocks, and no list needs so many. */
        private final Row[] rows = new Row[STORE_BLOCKS];
        private final int[] names = new int[STORE_BLOCKS];
        private int count = 0;

        Plan() {
            for (int i = 0; i < STORE_BLOCKS; i++) {
                rows[i] = new Row(BLOCK_BYTES);
            }
        }

        int size() {
            return count;
        }

        void empty() {
            count = 0;
        }

        /** Starts a block, whose place it answers. */
        int open() {
            if (count < STORE_BLOCKS) {
                count++;
            }
            rows[count - 1].empty();
            return count - 1;
        }

        int openAs(int form) {
            int at = open();
            rows[at].append(form);
            return at;
        }

        /** Ends a block, whose name it answers. */
        int seal(int at) {
            int place = within(at);
            names[place] = rows[place].hash();
            return names[place];
        }

        Row rowAt(int at) {
            return rows[within(at)];
        }

        int nameAt(int at) {
            return names[within(at)];
        }

        private static int within(int at) {
            return Math.max(0, Math.min(at, STORE_BLOCKS - 1));
        }

        /** 0 if all blocks could come in, else why not; a collision counts before a lack of room. */
        int verdictFor(Store store) {
            int fresh = 0;
            for (int i = 0; i < count; i++) {
                Row there = store.blockOf(names[i]);
                if (there == null) {
                    int first = firstNamed(names[i]);
                    there = rows[first];
                    fresh += first == i ? 1 : 0;
                }
                if (!there.isSameAs(rows[i])) {
                    return COLLISION;
                }
            }
            return fresh > store.room() ? NO_ROOM : 0;
        }

        private int firstNamed(int name) {
            int first = 0;
            while (first < count - 1 && names[first] != name) {
                first++;
            }
            return first;
        }

        void copyInto(Store store) {
            for (int i = 0; i < count; i++) {
                if (store.slotOf(names[i]) < 0) {
                    store.insert(rows[i], names[i]);
                }
            }
        }
    }

    /** One store: its blocks, its pins and its fetch. */
    private static final class Store {
        final int number;
        private final Row[] rows = new Row[STORE_BLOCKS];
        private final int[] names = new int[STORE_BLOCKS];
        private int count = 0;
        private final int[] pinNames = new int[PINS];
        private final boolean[] pinDeep = new boolean[PINS];
        private int pinCount = 0;
        int fetchState = NO_FETCH;
        int root = 0;
        int peer = 0;

        Store(int number) {
            this.number = number;
            for (int i = 0; i < STORE_BLOCKS; i++) {
                rows[i] = new Row(BLOCK_BYTES);
            }
        }

        int size() {
            return count;
        }

        int room() {
            return STORE_BLOCKS - count;
        }

        int slotOf(int name) {
            for (int i = 0; i < count; i++) {
                if (names[i] == name) {
                    return i;
                }
            }
            return NOTHING;
        }

        Row blockOf(int name) {
            int slot = slotOf(name);
            return slot < 0 ? null : rows[slot];
        }

        Row rowAt(int slot) {
            return slot < 0 || slot >= count ? null : rows[slot];
        }

        /** Takes a copy of a block whose name is not there; false if there is no room. */
        boolean insert(Row block, int name) {
            if (count >= STORE_BLOCKS) {
                return false;
            }
            rows[count].become(block);
            names[count] = name;
            count++;
            return true;
        }

        private int pinOf(int name, boolean deep) {
            for (int i = 0; i < pinCount; i++) {
                if (pinNames[i] == name && pinDeep[i] == deep) {
                    return i;
                }
            }
            return NOTHING;
        }

        boolean setPin(int name, boolean deep) {
            if (slotOf(name) < 0 || pinCount >= PINS || pinOf(name, deep) >= 0) {
                return false;
            }
            pinNames[pinCount] = name;
            pinDeep[pinCount] = deep;
            pinCount++;
            return true;
        }

        boolean dropPin(int name, boolean deep) {
            int at = pinOf(name, deep);
            if (at < 0) {
                return false;
            }
            pinCount--;
            pinNames[at] = pinNames[pinCount];
            pinDeep[at] = pinDeep[pinCount];
            return true;
        }

        boolean isFetching() {
            return fetchState == RUNNING;
        }

        void startFetch(int from, int name) {
            fetchState = RUNNING;
            peer = from;
            root = name;
        }

        /** Marks what is kept. Plain pins come last: a walk does not go on behind a marked block. */
        void walkKept(Walk walk) {
            if (isFetching()) {
                walk.follow(this, root);
            }
            for (int i = 0; i < pinCount; i++) {
                if (pinDeep[i]) {
                    walk.follow(this, pinNames[i]);
                }
            }
            for (int i = 0; i < pinCount; i++) {
                walk.mark(slotOf(pinNames[i]));
            }
        }

        /** Drops the blocks that a walk has not marked: how many. */
        int sweep(Walk walk) {
            int kept = 0;
            for (int i = 0; i < count; i++) {
                if (walk.isMarked(i)) {
                    swap(kept, i);
                    kept++;
                }
            }
            int gone = count - kept;
            count = kept;
            return gone;
        }

        /** Rows change places and are not dropped, so that they can be used again. */
        private void swap(int i, int j) {
            Row row = rows[i];
            rows[i] = rows[j];
            rows[j] = row;
            int name = names[i];
            names[i] = names[j];
            names[j] = name;
        }
    }

    /** What is under one or more names in a store: the blocks that are there, and the missing names. */
    private static final class Walk {
        private final boolean[] marked = new boolean[STORE_BLOCKS];
        private final int[] missing = new int[WALK_NAMES];
        private int missingCount = 0;
        private final int[] ahead = new int[WALK_NAMES];
        private int aheadCount = 0;

        void restart() {
            for (int i = 0; i < STORE_BLOCKS; i++) {
                marked[i] = false;
            }
            missingCount = 0;
        }

        /** Keeps its own stack, as a chain of blocks may be longer than calls should stand open. */
        void follow(Store store, int root) {
            aheadCount = 0;
            push(root);
            for (int step = 0; step < WALK_NAMES && aheadCount > 0; step++) {
                aheadCount--;
                visit(store, ahead[aheadCount]);
            }
        }

        private void visit(Store store, int name) {
            int slot = store.slotOf(name);
            Row block = store.rowAt(slot);
            if (block == null) {
                noteMissing(name);
            } else if (mark(slot)) {
                // The last link goes in first, so that the first one is visited next.
                for (int i = Form.linkCount(block) - 1; i >= 0; i--) {
                    push(Form.linkAt(block, i));
                }
            }
        }

        private void push(int name) {
            if (aheadCount < WALK_NAMES) {
                ahead[aheadCount] = name;
                aheadCount++;
            }
        }

        private void noteMissing(int name) {
            if (missingCount < WALK_NAMES && !isMissing(name)) {
                missing[missingCount] = name;
                missingCount++;
            }
        }

        /** False if there is no such slot or it was marked before. */
        boolean mark(int slot) {
            if (slot < 0 || slot >= STORE_BLOCKS || marked[slot]) {
                return false;
            }
            marked[slot] = true;
            return true;
        }

        boolean isMarked(int slot) {
            return slot >= 0 && slot < STORE_BLOCKS && marked[slot];
        }

        boolean isMissing(int name) {
            for (int i = 0; i < missingCount; i++) {
                if (missing[i] == name) {
                    return true;
                }
            }
            return false;
        }

        int missingCount() {
            return missingCount;
        }

        int missingAt(int i) {
            return i < 0 || i >= missingCount ? NOTHING : missing[i];
        }
    }

    /** A message between two stores. */
    private static final class Message {
        int kind = WANT;
        int sender = 0;
        int receiver = 0;
        int name = 0;
        final Row content = new Row(BLOCK_BYTES);

        /** A GIVE is named by its bytes as they are now, harmed or not. */
        int currentName() {
            return kind == GIVE ? content.hash() : name;
        }
    }

    /** The messages that wait, in a row. */
    private static final class Line {
        private final Message[] messages = new Message[MESSAGES];
        private int count = 0;
        /** The last one that was taken out: no message sent while it is read may be written over it. */
        private Message taken = new Message();

        Line() {
            for (int i = 0; i < MESSAGES; i++) {
                messages[i] = new Message();
            }
        }

        int size() {
            return count;
        }

        Message at(int k) {
            return k < 0 || k >= count ? null : messages[k];
        }

        void send(int kind, int sender, int receiver, int name) {
            if (count >= MESSAGES) {
                return;
            }
            Message message = messages[count];
            message.kind = kind;
            message.sender = sender;
            message.receiver = receiver;
            message.name = name;
            message.content.empty();
            count++;
        }

        void sendCopy(Row block, int sender, int receiver) {
            if (count >= MESSAGES) {
                return;
            }
            send(GIVE, sender, receiver, 0);
            messages[count - 1].content.become(block);
        }

        /** Takes a message out; it stays as it is until the next one is taken. */
        Message take(int k) {
            if (k < 0 || k >= count) {
                return null;
            }
            Message message = messages[k];
            for (int i = k; i < count - 1; i++) {
                messages[i] = messages[i + 1];
            }
            count--;
            messages[count] = taken;
            taken = message;
            return message;
        }
    }
}
