import java.util.ArrayList;
import java.util.Arrays;

/**
 * Files on a server that nobody trusts. Clients sign what they have seen; the server may show them
 * unlike worlds, but it is found as soon as it brings them together again or changes a byte.
 */
public final class ForkWatch {
    public static final int BAD = -1, NONE = -9;

    private static final int CLIENTS = 4;
    private static final int FILES = 16;
    private static final int FILE_ROOM = 12;
    private static final int WORLDS = 6;
    private static final int COLLECT_ROOM = 64;
    private static final int DIGEST_BYTES = 32;
    private static final int MOST_CALLS = 512;

    private static final int COUNTS_AT = 4;
    private static final int ROOT_AT = 20;
    private static final int MAC_AT = 52;
    private static final int STATEMENT_BYTES = 84;

    private final Sha256 sha = new Sha256();
    private final Mac mac = new Mac();
    private final int[] digestRow = new int[DIGEST_BYTES];

    private final ArrayList<World> worlds = new ArrayList<>();
    private final Statement[] remembered = new Statement[CLIENTS];
    private final int[] shown = new int[CLIENTS];

    private final int[] collected = new int[COLLECT_ROOM];
    private int collectedLength = 0;
    private final int[] lastRead = new int[FILE_ROOM];
    private int lastReadLength = 0;

    private final History history = new History();
    private boolean changed = false;
    private int wellDone = 0;
    private int stopped = 0;

    public ForkWatch() {
        World first = new World();
        first.tree.build(first.files, sha);
        for (int c = 0; c < CLIENTS; c++) {
            remembered[c] = new Statement(c);
            sign(remembered[c], first.tree);
            first.told[c].become(remembered[c]);
        }
        worlds.add(first);
    }

    public boolean feed(int b) {
        if (b < 0 || b > 255 || collectedLength >= COLLECT_ROOM) {
            return false;
        }
        collected[collectedLength] = b;
        collectedLength++;
        return true;
    }

    public int write(int client, int file) {
        if (!isClient(client) || !isFile(file) || collectedLength > FILE_ROOM) {
            return NONE;
        }
        // What was collected is gone also where a check stops the write; it stays with NONE alone.
        int length = collectedLength;
        collectedLength = 0;
        World world = worlds.get(shown[client]);
        int check = failedCheck(client, world);
        if (check != 0) {
            return stoppedBy(check);
        }
        world.put(file, collected, length, sha);
        history.note(true, client, file, collected, length);
        makeStatement(client, world);
        return 1;
    }

    public int read(int client, int file) {
        if (!isClient(client) || !isFile(file)) {
            return NONE;
        }
        World world = worlds.get(shown[client]);
        int check = failedCheck(client, world);
        if (check != 0) {
            return stoppedBy(check);
        }
        lastReadLength = world.files.length[file];
        System.arraycopy(world.files.content, file * FILE_ROOM, lastRead, 0, lastReadLength);
        history.note(false, client, file, lastRead, lastReadLength);
        makeStatement(client, world);
        return lastReadLength;
    }

    public int got(int i) {
        return i >= 0 && i < lastReadLength ? lastRead[i] : BAD;
    }

    public int split(int world) {
        if (!isWorld(world) || worlds.size() >= WORLDS) {
            return BAD;
        }
        World twin = new World();
        twin.become(worlds.get(world));
        worlds.add(twin);
        return worlds.size() - 1;
    }

    public int show(int client, int world) {
        if (!isClient(client) || !isWorld(world)) {
            return BAD;
        }
        int before = shown[client];
        shown[client] = world;
        return before;
    }

    public boolean graft(int world, int client, int from) {
        if (!isWorld(world) || !isClient(client) || !isWorld(from)) {
            return false;
        }
        worlds.get(world).told[client].become(worlds.get(from).told[client]);
        changed = true;
        return true;
    }

    public boolean poke(int world, int client, int i, int mask) {
        if (!isWorld(world) || !isClient(client) || !isStatementByte(i) || !isMask(mask)) {
            return false;
        }
        worlds.get(world).told[client].bytes[i] ^= mask;
        changed = true;
        return true;
    }

    public boolean spoil(int world, int file, int i, int mask) {
        if (!isWorld(world) || !isFile(file) || !isMask(mask)) {
            return false;
        }
        World spoilt = worlds.get(world);
        if (i < 0 || i >= spoilt.files.length[file]) {
            return false;
        }
        spoilt.flip(file, i, mask, sha);
        changed = true;
        return true;
    }

    public int exchange(int a, int b) {
        if (!isClient(a) || !isClient(b) || a == b) {
            return BAD;
        }
        return remembered[a].isInLineWith(remembered[b]) ? 0 : 1;
    }

    public int statement(int world, int client, int i) {
        if (!isClient(client) || !isStatementByte(i)) {
            return BAD;
        }
        if (world == -1) {
            return remembered[client].bytes[i];
        }
        return isWorld(world) ? worlds.get(world).told[client].bytes[i] : BAD;
    }

    public int seen(int client, int k) {
        return isClient(client) && isClient(k) ? (int) remembered[client].countOf(k) : BAD;
    }

    public int digest(int kind, int i) {
        if (kind < 0 || kind > 1 || i < 0 || i >= DIGEST_BYTES) {
            return BAD;
        }
        if (kind == 0) {
            sha.start();
            sha.takeRow(collected, 0, collectedLength);
            sha.finish(digestRow, 0);
        } else {
            mac.make(collected, collectedLength, digestRow, 0);
        }
        return digestRow[i];
    }

    public boolean plain() {
        if (changed) {
            return true;
        }
        for (int a = 0; a < CLIENTS; a++) {
            if (!history.isAnsweredPlainly(a, remembered[a])) {
                return false;
            }
            for (int b = a + 1; b < CLIENTS; b++) {
                if (remembered[a].isInLineWith(remembered[b])
                        && !history.oneBeginsTheOther(remembered[a], remembered[b])) {
                    return false;
                }
            }
        }
        return true;
    }

    public int count(int what) {
        switch (what) {
            case 0:
                return worlds.size();
            case 1:
                return wellDone;
            case 2:
                return stopped;
            case 3:
                return collectedLength;
            default:
                return what >= 4 && what < 4 + CLIENTS ? shown[what - 4] : BAD;
        }
    }

    private boolean isWorld(int world) {
        return world >= 0 && world < worlds.size();
    }

    private static boolean isClient(int client) {
        return client >= 0 && client < CLIENTS;
    }

    private static boolean isFile(int file) {
        return file >= 0 && file < FILES;
    }

    private static boolean isStatementByte(int i) {
        return i >= 0 && i < STATEMENT_BYTES;
    }

    private static boolean isMask(int mask) {
        return mask >= 1 && mask <= 255;
    }

    /** The number of the first check that fails, 0 if all is well. */
    private int failedCheck(int client, World world) {
        if (!areSigned(world)) {
            return 1;
        }
        if (!sameRow(world.told[client].bytes, 0, remembered[client].bytes, 0, STATEMENT_BYTES)) {
            return 2;
        }
        if (!world.isInLine()) {
            return 3;
        }
        return world.tree.hasRoot(world.greatest().bytes, ROOT_AT) ? 0 : 4;
    }

    private boolean areSigned(World world) {
        for (int c = 0; c < CLIENTS; c++) {
            int[] bytes = world.told[c].bytes;
            mac.make(bytes, MAC_AT, digestRow, 0);
            if (bytes[0] != c || !sameRow(bytes, MAC_AT, digestRow, 0, DIGEST_BYTES)) {
                return false;
            }
        }
        return true;
    }

    private int stoppedBy(int check) {
        stopped++;
        return -1 - check;
    }

    private void makeStatement(int client, World world) {
        Statement next = remembered[client];
        Statement greatest = world.greatest();
        for (int k = 0; k < CLIENTS; k++) {
            next.setCount(k, greatest.countOf(k) + (k == client ? 1 : 0));
        }
        sign(next, world.tree);
        world.told[client].become(next);
        wellDone++;
    }

    private void sign(Statement statement, Tree tree) {
        tree.copyRoot(statement.bytes, ROOT_AT);
        mac.make(statement.bytes, MAC_AT, statement.bytes, MAC_AT);
    }

    private static boolean sameRow(int[] a, int atA, int[] b, int atB, int length) {
        for (int i = 0; i < length; i++) {
            if (a[atA + i] != b[atB + i]) {
                return false;
            }
        }
        return true;
    }

    /** What a client signs; its bytes are kept as the server could change them, not as fields. */
    private static final class Statement {
        final int[] bytes = new int[STATEMENT_BYTES];

        Statement(int client) {
            bytes[0] = client;
        }

        void become(Statement other) {
            System.arraycopy(other.bytes, 0, bytes, 0, STATEMENT_BYTES);
        }

        /** A long, since four bytes that the highest bit is in would be below 0 as an int. */
        long countOf(int k) {
            long number = 0;
            for (int i = 0; i < 4; i++) {
                number = number << 8 | bytes[COUNTS_AT + 4 * k + i];
            }
            return number;
        }

        void setCount(int k, long number) {
            for (int i = 0; i < 4; i++) {
                bytes[COUNTS_AT + 4 * k + i] = (int) (number >>> (24 - 8 * i)) & 255;
            }
        }

        boolean isNotAbove(Statement other) {
            for (int k = 0; k < CLIENTS; k++) {
                if (countOf(k) > other.countOf(k)) {
                    return false;
                }
            }
            return true;
        }

        boolean isInLineWith(Statement other) {
            return isNotAbove(other) || other.isNotAbove(this);
        }
    }

    private static final class Files {
        /** One row for all files, so that a world costs few objects. */
        final int[] content = new int[FILES * FILE_ROOM];
        final int[] length = new int[FILES];

        void put(int file, int[] bytes, int count) {
            System.arraycopy(bytes, 0, content, file * FILE_ROOM, count);
            length[file] = count;
        }

        void become(Files other) {
            System.arraycopy(other.content, 0, content, 0, content.length);
            System.arraycopy(other.length, 0, length, 0, FILES);
        }

        void clear() {
            Arrays.fill(length, 0);
        }

        boolean holds(int file, int[] bytes) {
            return length[file] == bytes.length
                    && sameRow(content, file * FILE_ROOM, bytes, 0, bytes.length);
        }
    }

    /**
     * The tree over the files of a world, kept beside them: a change of one file asks for five digests
     * and not for all. Node n stands above 2n and 2n + 1; the root is node 1, file f's leaf 16 + f.
     */
    private static final class Tree {
        private final int[] nodes = new int[2 * FILES * DIGEST_BYTES];

        void build(Files files, Sha256 sha) {
            for (int f = 0; f < FILES; f++) {
                setLeaf(files, f, sha);
            }
            for (int n = FILES - 1; n >= 1; n--) {
                setNode(n, sha);
            }
        }

        void refresh(Files files, int file, Sha256 sha) {
            setLeaf(files, file, sha);
            for (int n = (FILES + file) / 2; n >= 1; n = n / 2) {
                setNode(n, sha);
            }
        }

        void become(Tree other) {
            System.arraycopy(other.nodes, 0, nodes, 0, nodes.length);
        }

        void copyRoot(int[] row, int at) {
            System.arraycopy(nodes, DIGEST_BYTES, row, at, DIGEST_BYTES);
        }

        boolean hasRoot(int[] row, int at) {
            return sameRow(nodes, DIGEST_BYTES, row, at, DIGEST_BYTES);
        }

        private void setLeaf(Files files, int file, Sha256 sha) {
            sha.start();
            sha.take(0);
            sha.take(file);
            sha.take(files.length[file]);
            sha.takeRow(files.content, file * FILE_ROOM, files.length[file]);
            sha.finish(nodes, (FILES + file) * DIGEST_BYTES);
        }

        private void setNode(int n, Sha256 sha) {
            sha.start();
            sha.take(1);
            sha.takeRow(nodes, 2 * n * DIGEST_BYTES, 2 * DIGEST_BYTES);
            sha.finish(nodes, n * DIGEST_BYTES);
        }
    }

    /** What the server tells to those whom it shows this world. */
    private static final class World {
        final Statement[] told = new Statement[CLIENTS];
        final Files files = new Files();
        final Tree tree = new Tree();

        World() {
            for (int c = 0; c < CLIENTS; c++) {
                told[c] = new Statement(c);
            }
        }

        void become(World other) {
            for (int c = 0; c < CLIENTS; c++) {
                told[c].become(other.told[c]);
            }
            files.become(other.files);
            tree.become(other.tree);
        }

        void put(int file, int[] bytes, int length, Sha256 sha) {
            files.put(file, bytes, length);
            tree.refresh(files, file, sha);
        }

        void flip(int file, int i, int mask, Sha256 sha) {
            files.content[file * FILE_ROOM + i] ^= mask;
            tree.refresh(files, file, sha);
        }

        boolean isInLine() {
            for (int a = 0; a < CLIENTS; a++) {
                for (int b = a + 1; b < CLIENTS; b++) {
                    if (!told[a].isInLineWith(told[b])) {
                        return false;
                    }
                }
            }
            return true;
        }

        /** Meant for statements that are in line; of equal ones it is the lesser client's. */
        Statement greatest() {
            Statement best = told[0];
            for (int c = 1; c < CLIENTS; c++) {
                if (!told[c].isNotAbove(best)) {
                    best = told[c];
                }
            }
            return best;
        }
    }

    /** An operation that was well: what it wrote, or what it was answered. */
    private static final class Operation {
        final boolean writes;
        final int client;
        final int number;
        final int file;
        final int[] content;

        Operation(boolean writes, int client, int number, int file, int[] content) {
            this.writes = writes;
            this.client = client;
            this.number = number;
            this.file = file;
            this.content = content;
        }

        boolean isCountedBy(Statement statement) {
            return number <= statement.countOf(client);
        }
    }

    /** All operations of all worlds in the order of the calls: what the theorem is held against. */
    private static final class History {
        private final ArrayList<Operation> operations = new ArrayList<>();
        private final int[] done = new int[CLIENTS];
        private final Files store = new Files();

        void note(boolean writes, int client, int file, int[] bytes, int length) {
            // Nothing is promised after so many calls, and what is kept must have an end.
            if (operations.size() >= MOST_CALLS) {
                return;
            }
            done[client]++;
            operations.add(new Operation(writes, client, done[client], file, Arrays.copyOf(bytes, length)));
        }

        boolean isAnsweredPlainly(int client, Statement last) {
            store.clear();
            for (int i = 0; i < operations.size(); i++) {
                Operation one = operations.get(i);
                boolean counted = one.isCountedBy(last);
                if (counted && one.writes) {
                    store.put(one.file, one.content, one.content.length);
                }
                // A write leaves in the store what it wrote, so it holds its own content as well.
                if (one.client == client && !(counted && store.holds(one.file, one.content))) {
                    return false;
                }
            }
            return true;
        }

        boolean oneBeginsTheOther(Statement a, Statement b) {
            boolean endOfA = false;
            boolean endOfB = false;
            for (int i = 0; i < operations.size(); i++) {
                boolean inA = operations.get(i).isCountedBy(a);
                boolean inB = operations.get(i).isCountedBy(b);
                if (inA && endOfA || inB && endOfB) {
                    return false;
                }
                endOfA = endOfA || inB && !inA;
                endOfB = endOfB || inA && !inB;
            }
            return true;
        }
    }

    /** HMAC with the key that the clients share, the bytes 1 .. 32. */
    private static final class Mac {
        private static final int BLOCK = 64;
        private static final int KEY_BYTES = 32;
        private static final int INNER = 54;
        private static final int OUTER = 92;

        private final Sha256 sha = new Sha256();
        private final int[] inside = new int[DIGEST_BYTES];

        void make(int[] bytes, int length, int[] out, int at) {
            startWithKey(INNER);
            sha.takeRow(bytes, 0, length);
            sha.finish(inside, 0);
            startWithKey(OUTER);
            sha.takeRow(inside, 0, DIGEST_BYTES);
            sha.finish(out, at);
        }

        private void startWithKey(int side) {
            sha.start();
            for (int i = 0; i < BLOCK; i++) {
                sha.take((i < KEY_BYTES ? i + 1 : 0) ^ side);
            }
        }
    }

    /** SHA-256 of bytes that come one by one; its rows are made once and used for every digest. */
    private static final class Sha256 {
        private static final int BLOCK = 64;
        private static final int LENGTH_AT = 56;
        private static final int[] START = {
            0x6a09e667, 0xbb67ae85, 0x3c6ef372, 0xa54ff53a, 0x510e527f, 0x9b05688c, 0x1f83d9ab, 0x5be0cd19,
        };
        private static final int[] ROUND = {
            0x428a2f98, 0x71374491, 0xb5c0fbcf, 0xe9b5dba5, 0x3956c25b, 0x59f111f1, 0x923f82a4, 0xab1c5ed5,
            0xd807aa98, 0x12835b01, 0x243185be, 0x550c7dc3, 0x72be5d74, 0x80deb1fe, 0x9bdc06a7, 0xc19bf174,
            0xe49b69c1, 0xefbe4786, 0x0fc19dc6, 0x240ca1cc, 0x2de92c6f, 0x4a7484aa, 0x5cb0a9dc, 0x76f988da,
            0x983e5152, 0xa831c66d, 0xb00327c8, 0xbf597fc7, 0xc6e00bf3, 0xd5a79147, 0x06ca6351, 0x14292967,
            0x27b70a85, 0x2e1b2138, 0x4d2c6dfc, 0x53380d13, 0x650a7354, 0x766a0abb, 0x81c2c92e, 0x92722c85,
            0xa2bfe8a1, 0xa81a664b, 0xc24b8b70, 0xc76c51a3, 0xd192e819, 0xd6990624, 0xf40e3585, 0x106aa070,
            0x19a4c116, 0x1e376c08, 0x2748774c, 0x34b0bcb5, 0x391c0cb3, 0x4ed8aa4a, 0x5b9cca4f, 0x682e6ff3,
            0x748f82ee, 0x78a5636f, 0x84c87814, 0x8cc70208, 0x90befffa, 0xa4506ceb, 0xbef9a3f7, 0xc67178f2,
        };

        private final int[] state = new int[8];
        private final int[] words = new int[64];
        private int filled = 0;
        private int taken = 0;

        void start() {
            System.arraycopy(START, 0, state, 0, START.length);
            filled = 0;
            taken = 0;
        }

        void take(int b) {
            // The four bytes of a word push out what the block before left in it.
            words[filled >> 2] = words[filled >> 2] << 8 | b;
            filled++;
            taken++;
            if (filled == BLOCK) {
                spread();
                mix();
                filled = 0;
            }
        }

        void takeRow(int[] row, int from, int length) {
            for (int i = 0; i < length; i++) {
                take(row[from + i]);
            }
        }

        void finish(int[] out, int at) {
            long bits = 8L * taken;
            take(128);
            for (int i = 0; i < BLOCK && filled != LENGTH_AT; i++) {
                take(0);
            }
            for (int shift = 56; shift >= 0; shift -= 8) {
                take((int) (bits >>> shift) & 255);
            }
            for (int i = 0; i < DIGEST_BYTES; i++) {
                out[at + i] = state[i >> 2] >>> (24 - 8 * (i & 3)) & 255;
            }
        }

        private void spread() {
            for (int i = 16; i < 64; i++) {
                int x = words[i - 15];
                int y = words[i - 2];
                int small0 = (x >>> 7 | x << 25) ^ (x >>> 18 | x << 14) ^ x >>> 3;
                int small1 = (y >>> 17 | y << 15) ^ (y >>> 19 | y << 13) ^ y >>> 10;
                words[i] = words[i - 16] + small0 + words[i - 7] + small1;
            }
        }

        private void mix() {
            int a = state[0], b = state[1], c = state[2], d = state[3];
            int e = state[4], f = state[5], g = state[6], h = state[7];
            for (int i = 0; i < 64; i++) {
                int big1 = (e >>> 6 | e << 26) ^ (e >>> 11 | e << 21) ^ (e >>> 25 | e << 7);
                int big0 = (a >>> 2 | a << 30) ^ (a >>> 13 | a << 19) ^ (a >>> 22 | a << 10);
                int choice = e & f ^ ~e & g;
                int majority = a & b ^ a & c ^ b & c;
                int first = h + big1 + choice + ROUND[i] + words[i];
                h = g;
                g = f;
                f = e;
                e = d + first;
                d = c;
                c = b;
                b = a;
                a = first + big0 + majority;
            }
            state[0] += a;
            state[1] += b;
            state[2] += c;
            state[3] += d;
            state[4] += e;
            state[5] += f;
            state[6] += g;
            state[7] += h;
        }
    }
}
