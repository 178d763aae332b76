/** Runs of calls that many tests make, each answer held against the one that is due. */
final class Calls {
    private Calls() {}

    static void feedAll(ForkWatch x, int... bytes) {
        for (int b : bytes) {
            Expect.due("feed(" + b + ")", x.feed(b), true);
        }
    }

    static void put(ForkWatch x, int client, int file, int... bytes) {
        feedAll(x, bytes);
        Expect.due("write(" + client + ", " + file + ")", x.write(client, file), 1);
    }

    static void readsAs(ForkWatch x, int client, int file, int... bytes) {
        Expect.due("read(" + client + ", " + file + ")", x.read(client, file), bytes.length);
        for (int i = 0; i < bytes.length; i++) {
            Expect.due("got(" + i + ")", x.got(i), bytes[i]);
        }
        Expect.due("got behind the end", x.got(bytes.length), -1);
    }

    static void saysAs(ForkWatch x, int world, int client, byte[] statement) {
        for (int i = 0; i < 84; i++) {
            Expect.due("statement(" + world + ", " + client + ", " + i + ")", x.statement(world, client, i), statement[i] & 255);
        }
    }

    static void seesAs(ForkWatch x, int client, int... counts) {
        for (int k = 0; k < 4; k++) {
            Expect.due("seen(" + client + ", " + k + ")", x.seen(client, k), counts[k]);
        }
    }

    /** A MAC can be had from digest(1, ..), so a run of calls can put any statement into a world. */
    static void forge(ForkWatch x, int world, int client, byte[] wanted) {
        for (int i = 0; i < 84; i++) {
            int mask = x.statement(world, client, i) ^ (wanted[i] & 255);
            if (mask != 0) {
                Expect.due("poke of byte " + i, x.poke(world, client, i, mask), true);
            }
        }
    }

    static byte[] emptyRoot() {
        return Model.root(new byte[16][0]);
    }

    static long[] counts(long a, long b, long c, long d) {
        return new long[] {a, b, c, d};
    }

    /** As many unlike bytes, the first 0 and the last, if it is another one, 255. */
    static int[] bytes(int length) {
        int[] row = new int[length];
        for (int i = 1; i < length; i++) {
            row[i] = 255 * i / (length - 1);
        }
        return row;
    }

    static byte[] packed(int... bytes) {
        byte[] row = new byte[bytes.length];
        for (int i = 0; i < bytes.length; i++) {
            row[i] = (byte) bytes[i];
        }
        return row;
    }
}
