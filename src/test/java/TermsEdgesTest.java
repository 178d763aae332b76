import java.nio.charset.StandardCharsets;

/** The edges that 'Terms' names, one method for each sentence; the sentence stands above it. */
public final class TermsEdgesTest {
    private static final long FULL = 0xFFFFFFFFL;

    public static void main(String[] args) {
        theLastOf512Calls();
        callsBehindTheLastDoNotThrow();
        filesHaveTwelveBytes();
        filesHaveNoneAtFirst();
        thereAreFourClients();
        theKeyHas32Bytes();
        theDigestIsThePublishedOne();
        digestsOfEveryLength();
        leavesOfEveryLength();
        leavesOfEveryFile();
        lengthsAreToldApart();
        aStatementHas84Bytes();
        countsCarryToTheHigherByte();
        countsWrapAround();
        countsAboveTheHighestInt();
        equalOnesAreNotAbove();
        oneCountIsEnoughToBeAbove();
        oneWorldAtFirstAndSixAtMost();
        theFirstWorld();
        checksComeInTheirOrder();
        checkOneLooksAtEveryClient();
        checkTwoLooksAtTheOwnOneAlone();
        checkThreeLooksAtEachTwo();
        checkFourTakesTheLesserOfEqualOnes();
        theGreatestNeedNotCountItselfMore();
        theOwnCountIsOneMore();
        nothingElseIsDone();
        Expect.end();
    }

    /** "An object is used for at most 512 calls after it has been made." */
    private static void theLastOf512Calls() {
        ForkWatch reads = new ForkWatch();
        ForkWatch writes = new ForkWatch();
        ForkWatch all = new ForkWatch();
        for (int i = 1; i <= 511; i++) {
            Expect.due("read " + i, reads.read(i % 4, i % 16), 0);
            Expect.due("write " + i, writes.write(0, 15), 1);
            Expect.due("read " + i, all.read(3, 0), 0);
        }
        Expect.due("plain() as the last call", reads.plain(), true);
        Expect.due("seen(0, 0) as the last call", writes.seen(0, 0), 511);
        Expect.due("the last call is an operation", all.read(3, 0), 0);
        ForkWatch counted = new ForkWatch();
        for (int i = 1; i <= 511; i++) {
            Expect.due("read " + i, counted.read(i % 2, 7), 0);
        }
        Expect.due("count(1) as the last call", counted.count(1), 511);
    }

    /** "What later calls answer is free", but LANGUAGE.md 7 lets none of them throw. */
    private static void callsBehindTheLastDoNotThrow() {
        ForkWatch x = new ForkWatch();
        for (int i = 0; i < 4000; i++) {
            x.feed(i & 255);
            x.write(i % 4, i % 16);
            x.read(i % 4, i % 16);
            x.plain();
            x.split(0);
        }
    }

    /** "FILES 0 .. 15 have at most 12 bytes": all of them at once, so that none reaches into another. */
    private static void filesHaveTwelveBytes() {
        ForkWatch x = new ForkWatch();
        byte[][] files = new byte[16][];
        for (int f = 0; f < 16; f++) {
            int[] content = Calls.bytes(12);
            content[0] = f;
            files[f] = Calls.packed(content);
            Calls.put(x, f % 4, f, content);
        }
        Calls.saysAs(x, -1, 3, Model.signed(3, Calls.counts(4, 4, 4, 4), Model.root(files)));
        for (int f = 0; f < 16; f += 15) {
            int[] content = Calls.bytes(12);
            content[0] = f;
            Calls.readsAs(x, 2, f, content);
        }
        Calls.feedAll(x, Calls.bytes(13));
        Expect.due("13 bytes to file 0", x.write(0, 0), ForkWatch.NONE);
        Expect.due("13 bytes to file 15", x.write(0, 15), ForkWatch.NONE);
        Expect.due("file - 1", x.read(0, -1), ForkWatch.NONE);
        Expect.due("file 16", x.read(0, 16), ForkWatch.NONE);
    }

    /** "FILES 0 .. 15 have .. none at first." */
    private static void filesHaveNoneAtFirst() {
        for (int f = 0; f < 16; f++) {
            ForkWatch x = new ForkWatch();
            Expect.due("spoil of byte 0 of file " + f, x.spoil(0, f, 0, 1), false);
            Calls.readsAs(x, 0, f);
        }
    }

    /** "CLIENTS 0 .. 3." */
    private static void thereAreFourClients() {
        ForkWatch x = new ForkWatch();
        Expect.due("client - 1", x.read(-1, 0), ForkWatch.NONE);
        Expect.due("client 4", x.read(4, 0), ForkWatch.NONE);
        for (int c = 0; c < 4; c++) {
            Calls.put(x, c, 0, c);
            Calls.readsAs(x, c, 0, c);
        }
        Calls.seesAs(x, 3, 2, 2, 2, 2);
    }

    /** "A KEY, the bytes 1 .. 32", "blocks of 64 bytes": the rest of the first block is empty. */
    private static void theKeyHas32Bytes() {
        int[] inner = new int[64];
        int[] outer = new int[64];
        for (int i = 0; i < 64; i++) {
            int key = i < 32 ? i + 1 : 0;
            inner[i] = key ^ 54;
            outer[i] = key ^ 92;
        }
        byte[] mac = Model.sha(Calls.packed(outer), Model.sha(Calls.packed(inner)));
        ForkWatch x = new ForkWatch();
        for (int i = 0; i < 32; i++) {
            Expect.due("byte " + i + " of the MAC of nothing", x.digest(1, i), mac[i] & 255);
        }
    }

    /** "THE DIGEST is SHA-256, as published": nothing, one block, and 56 bytes, which ask for a second one. */
    private static void theDigestIsThePublishedOne() {
        digestIs("", "e3b0c44298fc1c149afbf4c8996fb92427ae41e4649b934ca495991b7852b855");
        digestIs("abc", "ba7816bf8f01cfea414140de5dae2223b00361a396177a9cb410ff61f20015ad");
        digestIs("abcdbcdecdefdefgefghfghighijhijkijkljklmklmnlmnomnopnopq",
            "248d6a61d20638b8e5c026930c3e6039a33ce45964ff2167f6ecedd419db06c1");
    }

    private static void digestIs(String text, String hex) {
        ForkWatch x = new ForkWatch();
        for (byte b : text.getBytes(StandardCharsets.ISO_8859_1)) {
            Calls.feedAll(x, b);
        }
        for (int i = 0; i < 32; i++) {
            int due = Integer.parseInt(hex.substring(2 * i, 2 * i + 2), 16);
            Expect.due("byte " + i + " of the digest of '" + text + "'", x.digest(0, i), due);
        }
    }

    /** "THE DIGEST", "THE MAC": every length that can be collected, with each end of a block among them. */
    private static void digestsOfEveryLength() {
        for (int length = 0; length <= 64; length++) {
            ForkWatch x = new ForkWatch();
            Calls.feedAll(x, Calls.bytes(length));
            byte[] digest = Model.sha(Calls.packed(Calls.bytes(length)));
            byte[] mac = Model.mac(Calls.packed(Calls.bytes(length)));
            for (int i = 0; i < 32; i++) {
                Expect.due("digest(0, " + i + ") of " + length, x.digest(0, i), digest[i] & 255);
                Expect.due("digest(1, " + i + ") of " + length, x.digest(1, i), mac[i] & 255);
            }
        }
    }

    /** "Of file f the digest of bytes 0, f, its length, and its bytes": from empty to full and back. */
    private static void leavesOfEveryLength() {
        byte[][] files = new byte[16][0];
        for (int length = 0; length <= 12; length++) {
            ForkWatch x = new ForkWatch();
            Calls.put(x, 0, 6, Calls.bytes(12));
            Calls.put(x, 0, 6, Calls.bytes(length));
            files[6] = Calls.packed(Calls.bytes(length));
            Calls.saysAs(x, 0, 0, Model.signed(0, Calls.counts(2, 0, 0, 0), Model.root(files)));
        }
    }

    /** "The ROOT is on top, over eight, four, two, one pairs, in order": each leaf in its own place. */
    private static void leavesOfEveryFile() {
        for (int f = 0; f < 16; f++) {
            byte[][] files = new byte[16][0];
            files[f] = Calls.packed(255);
            ForkWatch x = new ForkWatch();
            Calls.put(x, 2, f, 255);
            Calls.saysAs(x, 0, 2, Model.signed(2, Calls.counts(0, 0, 1, 0), Model.root(files)));
        }
    }

    /** "Its length": an empty file and one that has a 0 have unlike leaves, as have 0 and 0, 0. */
    private static void lengthsAreToldApart() {
        ForkWatch x = new ForkWatch();
        int[] none = rootOf(x);
        Calls.put(x, 0, 0, 0);
        int[] one = rootOf(x);
        Calls.put(x, 0, 0, 0, 0);
        int[] two = rootOf(x);
        Calls.put(x, 0, 0);
        Expect.due("roots of none and one", java.util.Arrays.equals(none, one), false);
        Expect.due("roots of one and two", java.util.Arrays.equals(one, two), false);
        Expect.due("roots of none and none again", java.util.Arrays.equals(none, rootOf(x)), true);
    }

    private static int[] rootOf(ForkWatch x) {
        int[] root = new int[32];
        for (int i = 0; i < 32; i++) {
            root[i] = x.statement(-1, 0, 20 + i);
        }
        return root;
    }

    /** "A STATEMENT of a client are 84 bytes: its number; 0, 0, 0; four COUNTS ..; a root; the MAC." */
    private static void aStatementHas84Bytes() {
        for (int c = 0; c < 4; c++) {
            ForkWatch x = new ForkWatch();
            Expect.due("byte - 1", x.statement(0, c, -1), ForkWatch.BAD);
            Expect.due("byte 84", x.statement(0, c, 84), ForkWatch.BAD);
            Expect.due("its number", x.statement(0, c, 0), c);
            for (int i = 1; i < 20; i++) {
                Expect.due("byte " + i, x.statement(0, c, i), 0);
            }
            Calls.saysAs(x, 0, c, Model.signed(c, new long[4], Calls.emptyRoot()));
        }
    }

    /** "Of four bytes each, the highest first": the operation behind the 255th. */
    private static void countsCarryToTheHigherByte() {
        ForkWatch x = new ForkWatch();
        for (int i = 1; i <= 255; i++) {
            Expect.due("read " + i, x.read(2, 0), 0);
        }
        Expect.due("the lowest byte of 255", x.statement(-1, 2, 15), 255);
        Expect.due("the byte above it", x.statement(-1, 2, 14), 0);
        Expect.due("read 256", x.read(2, 0), 0);
        Expect.due("the lowest byte of 256", x.statement(-1, 2, 15), 0);
        Expect.due("the byte above it", x.statement(-1, 2, 14), 1);
        Expect.due("seen(2, 2)", x.seen(2, 2), 256);
        Expect.due("another client is not above it", x.read(0, 0), 0);
        Calls.saysAs(x, 0, 0, Model.signed(0, Calls.counts(1, 0, 256, 0), Calls.emptyRoot()));
    }

    /** "Its own, which is one more", in "four bytes": behind the highest count comes 0. */
    private static void countsWrapAround() {
        long[] before = {0xFFL, 0xFFFFL, 0xFFFFFFL, 0x7FFFFFFFL, FULL};
        for (int c = 0; c < 4; c++) {
            for (long count : before) {
                ForkWatch x = new ForkWatch();
                int other = (c + 1) % 4;
                long[] counts = new long[4];
                counts[c] = count;
                Calls.forge(x, 0, other, Model.signed(other, counts, Calls.emptyRoot()));
                Expect.due("read", x.read(c, 0), 0);
                counts[c] = count + 1 & FULL;
                Calls.saysAs(x, -1, c, Model.signed(c, counts, Calls.emptyRoot()));
                Expect.due("seen(" + c + ", " + c + ")", x.seen(c, c), (int) (count + 1));
            }
        }
    }

    /** A count has no sign: one with the highest bit is above those without. */
    private static void countsAboveTheHighestInt() {
        ForkWatch x = new ForkWatch();
        Calls.forge(x, 0, 1, Model.signed(1, Calls.counts(0, 0x7FFFFFFFL, 1, 0), Calls.emptyRoot()));
        Calls.forge(x, 0, 2, Model.signed(2, Calls.counts(0, 0x80000000L, 1, 0), Model.sha()));
        Expect.due("the greatest is client 2's, and its root is wrong", x.read(0, 0), -5);
    }

    /** "One is NOT ABOVE another one, if none of its counts is": equal counts are not. */
    private static void equalOnesAreNotAbove() {
        ForkWatch x = new ForkWatch();
        for (int a = 0; a < 4; a++) {
            for (int b = 0; b < 4; b++) {
                Expect.due("exchange(" + a + ", " + b + ") at first", x.exchange(a, b), a == b ? ForkWatch.BAD : 0);
            }
        }
        Expect.due("read among equal ones", x.read(3, 0), 0);
    }

    /** The same sentence: each count by itself makes one above another. */
    private static void oneCountIsEnoughToBeAbove() {
        for (int a = 0; a < 4; a++) {
            for (int b = a + 1; b < 4; b++) {
                ForkWatch x = new ForkWatch();
                x.split(0);
                x.show(b, 1);
                Expect.due("read", x.read(a, 0), 0);
                Expect.due("one above the other", x.exchange(a, b), 0);
                Expect.due("read", x.read(b, 0), 0);
                Expect.due("each above the other", x.exchange(a, b), 1);
                Expect.due("the other way round", x.exchange(b, a), 1);
            }
        }
    }

    /** "A WORLD (at most 6; one at first)." */
    private static void oneWorldAtFirstAndSixAtMost() {
        ForkWatch x = new ForkWatch();
        for (int worlds = 1; worlds <= 6; worlds++) {
            Expect.due("worlds", x.count(0), worlds);
            Expect.due("the last world", x.statement(worlds - 1, 3, 0), 3);
            Expect.due("the world behind it", x.statement(worlds, 3, 0), ForkWatch.BAD);
            Expect.due("one more", x.split(worlds - 1), worlds < 6 ? worlds : ForkWatch.BAD);
        }
        Expect.due("worlds", x.count(0), 6);
    }

    /** "At first all counts are 0, and the root is that of empty files. Each client is shown .. 0 at first." */
    private static void theFirstWorld() {
        for (int c = 0; c < 4; c++) {
            ForkWatch x = new ForkWatch();
            Calls.saysAs(x, 0, c, Model.signed(c, new long[4], Calls.emptyRoot()));
            Calls.saysAs(x, -1, c, Model.signed(c, new long[4], Calls.emptyRoot()));
            Calls.seesAs(x, c, 0, 0, 0, 0);
            Expect.due("world shown to client " + c, x.count(4 + c), 0);
            Expect.due("the one before", x.show(c, 0), 0);
        }
    }

    /**
     * "Checks, in this order": every two faults at once, the lesser number is told. Client 1 operates in
     * world 0; a fault of bit k - 1 is one for check k.
     */
    private static void checksComeInTheirOrder() {
        for (int faults = 0; faults < 16; faults++) {
            ForkWatch x = new ForkWatch();
            Calls.put(x, 0, 5, 1, 2);
            x.split(0);
            x.split(0);
            x.show(2, 1);
            x.show(3, 2);
            Calls.readsAs(x, 2, 5, 1, 2);
            Calls.readsAs(x, 3, 5, 1, 2);
            makeFaults(x, faults);
            int first = (faults & 1) != 0 ? -2 : (faults & 2) != 0 ? -3 : (faults & 4) != 0 ? -4 : -5;
            Expect.due("read with faults " + faults, x.read(1, 5), faults == 0 ? 2 : first);
            Calls.feedAll(x, 9);
            Expect.due("write with faults " + faults, x.write(1, 6), faults == 0 ? 1 : first);
        }
    }

    private static void makeFaults(ForkWatch x, int faults) {
        if ((faults & 2) != 0) {
            // Client 1 goes on in a world of its own; world 0 keeps its older statement.
            x.split(0);
            x.show(1, 3);
            Calls.readsAs(x, 1, 5, 1, 2);
            x.show(1, 0);
        }
        if ((faults & 4) != 0) {
            x.graft(0, 2, 1);
            x.graft(0, 3, 2);
        }
        if ((faults & 8) != 0) {
            x.spoil(0, 5, 1, 128);
        }
        if ((faults & 1) != 0) {
            x.poke(0, 3, 52, 16);
        }
    }

    /** "(1) of each statement, client by client, the number and the MAC": whoever operates. */
    private static void checkOneLooksAtEveryClient() {
        for (int of = 0; of < 4; of++) {
            ForkWatch x = new ForkWatch();
            for (int by = 0; by < 4; by++) {
                x.poke(0, of, 0, 4);
                Expect.due("number of " + of + ", read by " + by, x.read(by, 0), -2);
                x.poke(0, of, 0, 4);
                x.poke(0, of, 52, 1);
                Expect.due("first byte of the MAC of " + of + ", read by " + by, x.read(by, 0), -2);
                x.poke(0, of, 52, 1);
                x.poke(0, of, 83, 128);
                Expect.due("last byte of the MAC of " + of + ", read by " + by, x.read(by, 0), -2);
                x.poke(0, of, 83, 128);
                Expect.due("nothing poked, read by " + by, x.read(by, 0), 0);
            }
        }
    }

    /** "(2) that its own one is the one that it remembers, byte by byte": another's may be older. */
    private static void checkTwoLooksAtTheOwnOneAlone() {
        for (int c = 0; c < 4; c++) {
            ForkWatch x = new ForkWatch();
            x.split(0);
            Expect.due("read", x.read(c, 0), 0);
            for (int d = 0; d < 4; d++) {
                x.show(d, 1);
                Expect.due("read by " + d + " when " + c + " went on elsewhere", x.read(d, 0), d == c ? -3 : 0);
            }
        }
        oneByteOfTheRootIsAsked();
    }

    /** The counts are equal and the MAC is right, only the root is another one. */
    private static void oneByteOfTheRootIsAsked() {
        byte[] root = Calls.emptyRoot();
        root[31] ^= 1;
        ForkWatch x = new ForkWatch();
        Calls.forge(x, 0, 3, Model.signed(3, new long[4], root));
        Expect.due("read by client 3", x.read(3, 0), -3);
        Expect.due("read by client 0, whose statement is the greatest", x.read(0, 0), 0);
    }

    /** "(3) that of each two one is not above the other": the two, and one who operates beside them. */
    private static void checkThreeLooksAtEachTwo() {
        for (int a = 0; a < 4; a++) {
            for (int b = a + 1; b < 4; b++) {
                int by = a != 0 ? 0 : b != 1 ? 1 : 2;
                ForkWatch x = new ForkWatch();
                x.split(0);
                x.show(b, 1);
                Expect.due("read by " + a, x.read(a, 0), 0);
                Expect.due("read by " + b, x.read(b, 0), 0);
                x.graft(0, b, 1);
                x.show(b, 0);
                Expect.due("read by " + by + " beside " + a + " and " + b, x.read(by, 0), -4);
                Expect.due("read by " + a + " beside " + b, x.read(a, 0), -4);
                Expect.due("read by " + b + " beside " + a, x.read(b, 0), -4);
            }
        }
    }

    /** "(4) .. the GREATEST statement, above which none is (of equal ones the lesser client's)." */
    private static void checkFourTakesTheLesserOfEqualOnes() {
        for (int lesser = 0; lesser < 3; lesser++) {
            for (int greater = lesser + 1; greater < 4; greater++) {
                int by = lesser != 0 ? 0 : greater != 1 ? 1 : 2;
                Expect.due("the right root is with " + lesser + " of " + lesser + ", " + greater,
                    readBesideEqualOnes(lesser, Calls.emptyRoot(), greater, Model.sha(), by), 0);
                Expect.due("the right root is with " + greater + " of " + lesser + ", " + greater,
                    readBesideEqualOnes(lesser, Model.sha(), greater, Calls.emptyRoot(), by), -5);
            }
        }
    }

    private static int readBesideEqualOnes(int a, byte[] rootOfA, int b, byte[] rootOfB, int by) {
        ForkWatch x = new ForkWatch();
        Calls.forge(x, 0, a, Model.signed(a, Calls.counts(1, 1, 1, 1), rootOfA));
        Calls.forge(x, 0, b, Model.signed(b, Calls.counts(1, 1, 1, 1), rootOfB));
        return x.read(by, 0);
    }

    /** "Its count of itself need not be more." */
    private static void theGreatestNeedNotCountItselfMore() {
        for (int c = 1; c < 4; c++) {
            ForkWatch x = new ForkWatch();
            long[] counts = {5, 5, 5, 5};
            counts[c] = 0;
            Calls.forge(x, 0, c, Model.signed(c, counts, Calls.emptyRoot()));
            Expect.due("read beside client " + c + "'s", x.read(0, 0), 0);
            counts[0] = 6;
            Calls.saysAs(x, 0, 0, Model.signed(0, counts, Calls.emptyRoot()));
        }
    }

    /** "Counts are those of the greatest one, but its own, which is one more." */
    private static void theOwnCountIsOneMore() {
        for (int c = 0; c < 4; c++) {
            ForkWatch x = new ForkWatch();
            long[] counts = {0, 0, 0, 0};
            for (int turn = 0; turn < 2; turn++) {
                for (int d = 0; d < 4; d++) {
                    Expect.due("read by " + (c + d) % 4, x.read((c + d) % 4, 0), 0);
                    counts[(c + d) % 4]++;
                }
            }
            int last = (c + 3) % 4;
            Calls.saysAs(x, 0, last, Model.signed(last, counts, Calls.emptyRoot()));
            Calls.saysAs(x, -1, last, Model.signed(last, counts, Calls.emptyRoot()));
        }
    }

    /** "If something is not so, .. nothing else is done": the same run with and without what is stopped. */
    private static void nothingElseIsDone() {
        Look.Run base = x -> {
            Calls.put(x, 0, 1, 4, 5, 6);
            Calls.readsAs(x, 2, 1, 4, 5, 6);
            x.split(0);
            x.show(1, 1);
            x.spoil(1, 1, 0, 1);
        };
        Look.Run stopped = x -> {
            base.on(x);
            Expect.due("a read", x.read(1, 1), -5);
            Expect.due("a write of nothing", x.write(1, 1), -5);
        };
        Look.Run back = x -> x.spoil(1, 1, 0, 1);
        Expect.due("what is seen behind stopped operations but count(2)",
            Look.at(base, back).equals(Look.at(stopped, back)), true);
        ForkWatch x = new ForkWatch();
        stopped.on(x);
        Expect.due("count(2)", x.count(2), 2);
    }
}
