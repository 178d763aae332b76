/** The checks of an operation, their order, and what a statement with a right MAC may say. */
public final class ChecksTest {
    public static void main(String[] args) {
        eachByteOfAStatementIsWatched();
        eachByteOfAFileIsWatched();
        theOrderOfTheChecks();
        aStoppedOperationDoesNothingElse();
        whatWasCollectedIsGoneWithEachCheck();
        onlyNoneLetsItStayCollected();
        aWrongNumberWithARightMac();
        theZerosAreNotAsked();
        countsHaveNoSign();
        ofEqualOnesTheLesserClients();
        theGreatestNeedNotCountItself();
        theOwnCountIsOneMoreThanTheGreatestOnes();
        eachTwoAreLookedAt();
        Expect.end();
    }

    private static void eachByteOfAStatementIsWatched() {
        ForkWatch x = new ForkWatch();
        for (int i = 0; i < 84; i++) {
            int client = i % 4;
            x.poke(0, client, i, 1 << i % 8);
            Expect.due("write when byte " + i + " was poked", x.write(0, 0), -2);
            Expect.due("read when byte " + i + " was poked", x.read(3, 0), -2);
            x.poke(0, client, i, 1 << i % 8);
        }
        Expect.due("read when all was put back", x.read(3, 0), 0);
    }

    private static void eachByteOfAFileIsWatched() {
        ForkWatch x = new ForkWatch();
        for (int f = 0; f < 16; f++) {
            for (int i = 0; i < 3; i++) {
                x.feed(i);
            }
            Expect.due("write to file " + f, x.write(f % 4, f), 1);
        }
        for (int f = 0; f < 16; f++) {
            for (int i = 0; i < 3; i++) {
                x.spoil(0, f, i, 128);
                Expect.due("read beside spoilt file " + f, x.read(0, (f + 1) % 16), -5);
                x.spoil(0, f, i, 128);
            }
        }
        Expect.due("read when all was put back", x.read(0, 0), 3);
    }

    /** In world 0 all four are wrong for client 1; they are mended one by one, the first check first. */
    private static void theOrderOfTheChecks() {
        ForkWatch x = new ForkWatch();
        x.feed(7);
        x.write(0, 0);
        x.split(0);
        x.show(1, 1);
        x.show(3, 1);
        x.write(1, 1);
        x.read(3, 1);
        x.write(0, 1);
        x.graft(0, 3, 1);
        x.spoil(0, 0, 0, 1);
        x.poke(0, 2, 83, 1);
        x.show(1, 0);
        Expect.due("all wrong", x.read(1, 0), -2);
        x.poke(0, 2, 83, 1);
        Expect.due("all MACs right", x.read(1, 0), -3);
        x.graft(0, 1, 1);
        Expect.due("its own one right", x.read(1, 0), -4);
        x.graft(0, 0, 1);
        Expect.due("all in line", x.read(1, 0), -5);
        x.spoil(0, 0, 0, 1);
        Expect.due("the root right", x.read(1, 0), 1);
    }

    private static void aStoppedOperationDoesNothingElse() {
        ForkWatch x = new ForkWatch();
        x.feed(9);
        x.write(0, 0);
        x.read(1, 0);
        x.feed(5);
        x.feed(6);
        x.poke(0, 3, 60, 1);
        int[] before = new int[2 * 84];
        for (int i = 0; i < before.length; i++) {
            before[i] = x.statement(-1, 1 + i / 84, i % 84);
        }
        Expect.due("stopped read", x.read(1, 4), -2);
        Expect.due("a stopped read leaves what is collected", x.count(3), 2);
        Expect.due("stopped write", x.write(2, 0), -2);
        for (int i = 0; i < before.length; i++) {
            Expect.due("remembered byte " + i, x.statement(-1, 1 + i / 84, i % 84), before[i]);
        }
        Expect.due("what was collected is gone", x.count(3), 0);
        Expect.due("got stays", x.got(0), 9);
        Expect.due("well", x.count(1), 2);
        Expect.due("stopped", x.count(2), 2);
        x.poke(0, 3, 60, 1);
        Expect.due("the file stayed", x.read(2, 0), 1);
        Expect.due("its byte", x.got(0), 9);
        x.feed(7);
        Expect.due("what is collected anew is written", x.write(2, 0), 1);
        Expect.due("and that alone", x.read(2, 0), 1);
        Expect.due("its byte 0", x.got(0), 7);
    }

    /** The same four faults as in the order of the checks; client 1 writes each time. */
    private static void whatWasCollectedIsGoneWithEachCheck() {
        ForkWatch x = new ForkWatch();
        x.feed(7);
        x.write(0, 0);
        x.split(0);
        x.show(1, 1);
        x.show(3, 1);
        x.read(1, 1);
        x.read(3, 1);
        x.read(0, 1);
        x.graft(0, 3, 1);
        x.spoil(0, 0, 0, 1);
        x.poke(0, 2, 83, 1);
        x.show(1, 0);
        stoppedAndGone(x, -2);
        x.poke(0, 2, 83, 1);
        stoppedAndGone(x, -3);
        x.graft(0, 1, 1);
        stoppedAndGone(x, -4);
        x.graft(0, 0, 1);
        stoppedAndGone(x, -5);
        x.spoil(0, 0, 0, 1);
        Expect.due("a write of nothing", x.write(1, 0), 1);
        Expect.due("its length", x.read(1, 0), 0);
    }

    /** Twelve bytes each time: if one stayed, the next write would answer NONE. */
    private static void stoppedAndGone(ForkWatch x, int answer) {
        for (int i = 0; i < 12; i++) {
            x.feed(i);
        }
        Expect.due("a stopped write", x.write(1, 0), answer);
        Expect.due("collected behind " + answer, x.count(3), 0);
        Expect.due("digest of nothing behind " + answer, x.digest(0, 0), Model.sha()[0] & 255);
    }

    private static void onlyNoneLetsItStayCollected() {
        ForkWatch x = new ForkWatch();
        x.poke(0, 0, 0, 1);
        for (int i = 0; i < 12; i++) {
            x.feed(i);
        }
        Expect.due("no such client", x.write(4, 0), -9);
        Expect.due("no such file", x.write(0, 16), -9);
        Expect.due("twelve stay", x.count(3), 12);
        x.feed(12);
        Expect.due("more than 12 bytes, and a check that would stop it", x.write(0, 0), -9);
        Expect.due("thirteen stay", x.count(3), 13);
        Expect.due("none of them was stopped by a check", x.count(2), 0);
    }

    private static void aWrongNumberWithARightMac() {
        ForkWatch x = new ForkWatch();
        Calls.forge(x, 0, 2, Model.signed(3, Calls.counts(0, 0, 0, 0), Calls.emptyRoot()));
        Expect.due("number 3 in the place of 2", x.read(0, 0), -2);
        Calls.forge(x, 0, 2, Model.signed(2, Calls.counts(0, 0, 0, 0), Calls.emptyRoot()));
        Expect.due("number 2", x.read(0, 0), 0);
    }

    private static void theZerosAreNotAsked() {
        ForkWatch x = new ForkWatch();
        byte[] body = java.util.Arrays.copyOf(Model.signed(2, Calls.counts(0, 0, 0, 0), Calls.emptyRoot()), 52);
        body[2] = 1;
        Calls.forge(x, 0, 2, Model.joined(body));
        Expect.due("1 in the place of a 0, with a right MAC", x.read(0, 0), 0);
        Expect.due("the same, for the client whose statement it is", x.read(2, 0), -3);
    }

    private static void countsHaveNoSign() {
        ForkWatch x = new ForkWatch();
        Calls.forge(x, 0, 3, Model.signed(3, Calls.counts(0x80000000L, 0x01020304L, 0, 0), Calls.emptyRoot()));
        Expect.due("read", x.read(0, 0), 0);
        Expect.due("highest byte", x.statement(-1, 0, 4), 128);
        Expect.due("lowest byte", x.statement(-1, 0, 7), 1);
        Expect.due("a count of four unlike bytes", x.seen(0, 1), 0x01020304);
        Expect.due("above the first statements", x.exchange(0, 1), 0);
    }

    private static void ofEqualOnesTheLesserClients() {
        byte[] wrongRoot = Model.sha(new byte[] {1});
        ForkWatch x = new ForkWatch();
        Calls.forge(x, 0, 1, Model.signed(1, Calls.counts(0, 1, 1, 0), Calls.emptyRoot()));
        Calls.forge(x, 0, 2, Model.signed(2, Calls.counts(0, 1, 1, 0), wrongRoot));
        Expect.due("the lesser one's root is right", x.read(0, 0), 0);
        ForkWatch y = new ForkWatch();
        Calls.forge(y, 0, 1, Model.signed(1, Calls.counts(0, 1, 1, 0), wrongRoot));
        Calls.forge(y, 0, 2, Model.signed(2, Calls.counts(0, 1, 1, 0), Calls.emptyRoot()));
        Expect.due("the lesser one's root is wrong", y.read(0, 0), -5);
    }

    private static void theGreatestNeedNotCountItself() {
        ForkWatch x = new ForkWatch();
        Calls.forge(x, 0, 1, Model.signed(1, Calls.counts(0, 0, 5, 0), Calls.emptyRoot()));
        Expect.due("read", x.read(0, 0), 0);
        Expect.due("seen of 0", x.seen(0, 0), 1);
        Expect.due("seen of 1", x.seen(0, 1), 0);
        Expect.due("seen of 2", x.seen(0, 2), 5);
    }

    private static void theOwnCountIsOneMoreThanTheGreatestOnes() {
        ForkWatch x = new ForkWatch();
        Calls.forge(x, 0, 1, Model.signed(1, Calls.counts(7, 1, 0, 0), Calls.emptyRoot()));
        Expect.due("read", x.read(0, 0), 0);
        Expect.due("seen of 0", x.seen(0, 0), 8);
    }

    /** For each pair of clients, those two alone are out of line. */
    private static void eachTwoAreLookedAt() {
        for (int a = 0; a < 4; a++) {
            for (int b = a + 1; b < 4; b++) {
                ForkWatch x = new ForkWatch();
                long[] one = new long[4];
                long[] other = new long[4];
                one[a] = 1;
                other[b] = 1;
                Calls.forge(x, 0, a, Model.signed(a, one, Calls.emptyRoot()));
                Calls.forge(x, 0, b, Model.signed(b, other, Calls.emptyRoot()));
                int reader = a != 0 ? 0 : b != 1 ? 1 : 2;
                Expect.due("read when " + a + " and " + b + " are out of line", x.read(reader, 0), -4);
            }
        }
    }
}
