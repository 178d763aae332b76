/** The document's first lines, 'What it is', one method for each clause; the clause stands above it. */
public final class WhatItIsTest {
    private static final int[] MASKS = {1, 2, 4, 8, 16, 32, 64, 128, 255};

    /** Those who take part when the server does all that it can in a few steps. */
    private static final int CLIENTS = 3;
    private static final int WORLDS = 2;
    /** A client reads, or is shown a world, or its statement in a world becomes that of the other world. */
    private static final int STEPS = CLIENTS + 2 * CLIENTS * WORLDS;

    public static void main(String[] args) {
        eachClientSignsWhatItHasSeen();
        unlikeStoriesCanBeShown();
        partedClientsAreNeverBroughtTogether();
        clientsAreBroughtTogetherBeforeTheyPart();
        aChangedByteOfAStatementIsFoundAtOnce();
        aChangedByteOfAFileIsFoundAtOnce();
        clientsFindThatTheyWereParted();
        Expect.end();
    }

    /** "Each client signs what it has seen, with the root of a tree of digests and a row of counts." */
    private static void eachClientSignsWhatItHasSeen() {
        ForkWatch x = new ForkWatch();
        byte[][] files = new byte[16][0];
        long[] counts = new long[4];
        for (int c = 0; c < 4; c++) {
            Calls.put(x, c, 3 + c, c, 7);
            files[3 + c] = Calls.packed(c, 7);
            counts[c]++;
            Calls.saysAs(x, -1, c, Model.signed(c, counts, Model.root(files)));
        }
    }

    /** "A server that shows clients unlike stories can do so": each goes on in its own one. */
    private static void unlikeStoriesCanBeShown() {
        ForkWatch x = new ForkWatch();
        Calls.put(x, 0, 5, 1);
        for (int c = 1; c < 4; c++) {
            Expect.due("split(0)", x.split(0), c);
            Expect.due("show(" + c + ", " + c + ")", x.show(c, c), 0);
        }
        for (int turn = 0; turn < 3; turn++) {
            for (int c = 0; c < 4; c++) {
                Calls.put(x, c, 5, 10 * c + turn);
                Calls.readsAs(x, c, 5, 10 * c + turn);
            }
        }
        Expect.due("operations that a check stopped", x.count(2), 0);
    }

    /**
     * "But never bring them together again without being found": clients 0 and 1 are parted, 2 has seen
     * what 0 did. Whatever the server then does, three steps and an operation, the two stay parted.
     */
    private static void partedClientsAreNeverBroughtTogether() {
        int[] steps = new int[4];
        for (int all = 0; all < STEPS * STEPS * STEPS * CLIENTS; all++) {
            int rest = all;
            steps[3] = rest % CLIENTS;
            rest /= CLIENTS;
            for (int i = 2; i >= 0; i--) {
                steps[i] = rest % STEPS;
                rest /= STEPS;
            }
            ForkWatch x = parted();
            StringBuilder run = new StringBuilder("exchange(0, 1) behind");
            for (int step : steps) {
                run.append(' ').append(takeStep(x, step));
            }
            Expect.due(run.toString(), x.exchange(0, 1), 1);
        }
    }

    /** All reads, so that the files are the same in both worlds and no root tells them apart. */
    private static ForkWatch parted() {
        ForkWatch x = new ForkWatch();
        x.split(0);
        x.show(1, 1);
        x.read(0, 0);
        x.read(1, 0);
        x.read(2, 0);
        return x;
    }

    private static String takeStep(ForkWatch x, int step) {
        int client = step % CLIENTS;
        int world = step / CLIENTS % WORLDS;
        if (step < CLIENTS) {
            return "read(" + client + ", 0) = " + x.read(client, 0);
        }
        if (step < CLIENTS + CLIENTS * WORLDS) {
            return "show(" + client + ", " + world + ") = " + x.show(client, world);
        }
        return "graft(" + world + ", " + client + ", " + (1 - world) + ") = " + x.graft(world, client, 1 - world);
    }

    /** The other side of that clause: as long as one has not gone on alone, nobody is found. */
    private static void clientsAreBroughtTogetherBeforeTheyPart() {
        ForkWatch x = new ForkWatch();
        x.split(0);
        x.show(1, 1);
        Calls.put(x, 0, 5, 1);
        x.show(1, 0);
        Calls.readsAs(x, 1, 5, 1);
        Expect.due("exchange(0, 1)", x.exchange(0, 1), 0);
    }

    /** "One that changes a byte is found at once": each byte of each statement, by whoever comes next. */
    private static void aChangedByteOfAStatementIsFoundAtOnce() {
        for (int of = 0; of < 4; of++) {
            for (int i = 0; i < 84; i++) {
                ForkWatch x = new ForkWatch();
                Calls.put(x, 2, 5, 1, 2);
                Calls.readsAs(x, 1, 5, 1, 2);
                for (int mask : MASKS) {
                    Expect.due("poke", x.poke(0, of, i, mask), true);
                    everyoneFindsIt(x, -2, "byte " + i + " of " + of + "'s statement was poked with " + mask);
                    Expect.due("poke", x.poke(0, of, i, mask), true);
                }
                Calls.readsAs(x, 0, 5, 1, 2);
            }
        }
    }

    /** The same clause: each byte of each file, though another file is read. */
    private static void aChangedByteOfAFileIsFoundAtOnce() {
        for (int f = 0; f < 16; f++) {
            for (int i = 0; i < 12; i++) {
                ForkWatch x = new ForkWatch();
                Calls.put(x, 3, f, Calls.bytes(12));
                Calls.put(x, 1, (f + 1) % 16, 1, 2);
                for (int mask : MASKS) {
                    Expect.due("spoil", x.spoil(0, f, i, mask), true);
                    everyoneFindsIt(x, -5, "byte " + i + " of file " + f + " was spoilt with " + mask);
                    Expect.due("spoil", x.spoil(0, f, i, mask), true);
                }
                Calls.readsAs(x, 0, f, Calls.bytes(12));
            }
        }
    }

    private static void everyoneFindsIt(ForkWatch x, int due, String what) {
        for (int by = 0; by < 4; by++) {
            Expect.due("read by " + by + " when " + what, x.read(by, 5), due);
        }
    }

    /** "Two clients that tell each other what they have find that they were parted": any two, whoever is first. */
    private static void clientsFindThatTheyWereParted() {
        for (int a = 0; a < 4; a++) {
            for (int b = 0; b < 4; b++) {
                if (a == b) {
                    continue;
                }
                ForkWatch x = new ForkWatch();
                Calls.put(x, a, 5, 1);
                Calls.readsAs(x, b, 5, 1);
                x.split(0);
                x.show(b, 1);
                Calls.put(x, a, 5, 2);
                Expect.due("one of them went on", x.exchange(a, b), 0);
                Calls.put(x, b, 5, 3);
                Expect.due("both went on", x.exchange(a, b), 1);
            }
        }
    }
}
