/** The promises 1 to 16, one method each: ordinary inputs, the edges, and wrong inputs. */
public final class PromisesTest {
    private static final int[] NO_CLIENT = {-1, 4, Integer.MIN_VALUE, Integer.MAX_VALUE};
    private static final int[] NO_FILE = {-1, 16, Integer.MIN_VALUE, Integer.MAX_VALUE};
    private static final int[] NO_MASK = {0, -1, 256, 512, Integer.MIN_VALUE, Integer.MAX_VALUE};
    private static final int[] NO_STATEMENT_BYTE = {-1, 84, Integer.MIN_VALUE, Integer.MAX_VALUE};

    public static void main(String[] args) {
        promise1NewObject();
        promise2Feed();
        promise3Write();
        promise4Read();
        promise5Got();
        promise6Split();
        promise7Show();
        promise8Graft();
        promise9Poke();
        promise10Spoil();
        promise11Exchange();
        promise12Statement();
        promise13Seen();
        promise14Digest();
        promise15Plain();
        promise16Count();
        Expect.end();
    }

    private static void promise1NewObject() {
        byte[] root = Model.root(new byte[16][0]);
        for (int c = 0; c < 4; c++) {
            ForkWatch x = new ForkWatch();
            Calls.saysAs(x, 0, c, Model.signed(c, new long[4], root));
            Calls.saysAs(x, -1, c, Model.signed(c, new long[4], root));
        }
        ForkWatch y = new ForkWatch();
        int[] counts = {1, 0, 0, 0, 0, 0, 0, 0};
        for (int what = 0; what < 8; what++) {
            Expect.due("count(" + what + ") at first", y.count(what), counts[what]);
        }
        Expect.due("got(0) at first", y.got(0), -1);
        Expect.due("plain() at first", y.plain(), true);
        for (int f = 0; f < 16; f++) {
            Expect.due("read of file " + f + " at first", y.read(f % 4, f), 0);
        }
    }

    private static void promise2Feed() {
        ForkWatch x = new ForkWatch();
        for (int wrong : new int[] {-1, 256, Integer.MIN_VALUE, Integer.MAX_VALUE}) {
            Expect.due("feed(" + wrong + ")", x.feed(wrong), false);
        }
        Expect.due("nothing collected", x.count(3), 0);
        Calls.feedAll(x, 0, 255);
        for (int i = 2; i < 64; i++) {
            Calls.feedAll(x, i);
        }
        Expect.due("collected", x.count(3), 64);
        Expect.due("feed without room", x.feed(1), false);
        Expect.due("still collected", x.count(3), 64);
    }

    private static void promise3Write() {
        ForkWatch x = new ForkWatch();
        Calls.put(x, 0, 0, 1, 2, 3, 4, 5, 6, 7, 8, 9, 10, 11, 255);
        Expect.due("it is gone", x.count(3), 0);
        Calls.readsAs(x, 3, 0, 1, 2, 3, 4, 5, 6, 7, 8, 9, 10, 11, 255);
        Calls.put(x, 1, 0, 42);
        Calls.readsAs(x, 2, 0, 42);
        Calls.put(x, 1, 15, 43);
        Calls.readsAs(x, 0, 15, 43);
        Calls.readsAs(x, 0, 14);
        Calls.put(x, 2, 0);
        Calls.readsAs(x, 2, 0);
        Calls.feedAll(x, 5);
        for (int none : NO_CLIENT) {
            Expect.due("write by client " + none, x.write(none, 0), -9);
        }
        for (int none : NO_FILE) {
            Expect.due("write to file " + none, x.write(0, none), -9);
        }
        Expect.due("it stays", x.count(3), 1);
        Calls.feedAll(x, 0, 0, 0, 0, 0, 0, 0, 0, 0, 0, 0, 0);
        Expect.due("write of 13 bytes", x.write(0, 0), -9);
        Expect.due("they stay", x.count(3), 13);
        Expect.due("NONE is not stopped by a check", x.count(2), 0);
        Calls.readsAs(x, 0, 15, 43);
        stoppedWrite();
        writeStatement();
    }

    private static void stoppedWrite() {
        ForkWatch x = new ForkWatch();
        Calls.put(x, 0, 1, 6, 7);
        x.spoil(0, 1, 0, 1);
        Calls.feedAll(x, 1, 2, 3, 4, 5, 6, 7, 8);
        Expect.due("write beside a spoilt file", x.write(0, 0), -5);
        Expect.due("it is gone all the same", x.count(3), 0);
        Calls.feedAll(x, 1, 2, 3, 4, 5);
        Expect.due("write once more", x.write(0, 0), -5);
        x.spoil(0, 1, 0, 1);
        Calls.readsAs(x, 0, 0);
        Calls.put(x, 0, 0, 9);
        Calls.readsAs(x, 0, 0, 9);
    }

    private static void writeStatement() {
        ForkWatch x = new ForkWatch();
        byte[][] files = new byte[16][0];
        Calls.put(x, 2, 9, 200, 100);
        files[9] = new byte[] {(byte) 200, 100};
        byte[] first = Model.signed(2, new long[] {0, 0, 1, 0}, Model.root(files));
        Calls.saysAs(x, 0, 2, first);
        Calls.saysAs(x, -1, 2, first);
        Calls.put(x, 1, 10, 1);
        files[10] = new byte[] {1};
        Calls.saysAs(x, 0, 1, Model.signed(1, new long[] {0, 1, 1, 0}, Model.root(files)));
    }

    private static void promise4Read() {
        ForkWatch x = new ForkWatch();
        Calls.put(x, 0, 7, 3, 1, 4);
        Calls.readsAs(x, 1, 7, 3, 1, 4);
        byte[][] files = new byte[16][0];
        files[7] = new byte[] {3, 1, 4};
        Calls.saysAs(x, 0, 1, Model.signed(1, new long[] {1, 1, 0, 0}, Model.root(files)));
        Calls.saysAs(x, -1, 1, Model.signed(1, new long[] {1, 1, 0, 0}, Model.root(files)));
        for (int none : NO_CLIENT) {
            Expect.due("read by client " + none, x.read(none, 7), -9);
        }
        for (int none : NO_FILE) {
            Expect.due("read of file " + none, x.read(1, none), -9);
        }
        Expect.due("got stays", x.got(2), 4);
        Expect.due("well", x.count(1), 2);
        Expect.due("stopped", x.count(2), 0);
        Calls.feedAll(x, 1);
        Expect.due("read", x.read(1, 7), 3);
        Expect.due("a read leaves what is collected", x.count(3), 1);
        x.spoil(0, 7, 2, 255);
        Expect.due("read of a spoilt file", x.read(1, 7), -5);
    }

    private static void promise5Got() {
        ForkWatch x = new ForkWatch();
        Expect.due("got before a read", x.got(0), -1);
        Calls.put(x, 0, 0, 255, 0, 128);
        Expect.due("got after a write alone", x.got(0), -1);
        Calls.readsAs(x, 0, 0, 255, 0, 128);
        for (int none : new int[] {-1, 3, 12, Integer.MIN_VALUE, Integer.MAX_VALUE}) {
            Expect.due("got(" + none + ")", x.got(none), -1);
        }
        Calls.put(x, 0, 0, 9, 9, 9, 9);
        Expect.due("got is not touched by a write", x.got(0), 255);
        x.spoil(0, 0, 0, 1);
        Expect.due("read that is stopped", x.read(1, 0), -5);
        Expect.due("got of the read before", x.got(2), 128);
        Expect.due("its end", x.got(3), -1);
        x.spoil(0, 0, 0, 1);
        Calls.readsAs(x, 1, 5);
        Expect.due("got after a read of nothing", x.got(0), -1);
    }

    private static void promise6Split() {
        ForkWatch x = new ForkWatch();
        Calls.put(x, 0, 0, 1);
        for (int none : new int[] {-1, 1, 6, Integer.MIN_VALUE, Integer.MAX_VALUE}) {
            Expect.due("split(" + none + ")", x.split(none), -1);
        }
        Expect.due("split(0)", x.split(0), 1);
        for (int i = 0; i < 84; i++) {
            Expect.due("a twin's statement", x.statement(1, 0, i), x.statement(0, 0, i));
        }
        x.show(1, 1);
        Calls.put(x, 1, 1, 2);
        Expect.due("split(1)", x.split(1), 2);
        x.show(2, 2);
        Calls.readsAs(x, 2, 0, 1);
        Calls.readsAs(x, 2, 1, 2);
        Calls.seesAs(x, 2, 1, 1, 2, 0);
        Calls.readsAs(x, 3, 1);
        Calls.seesAs(x, 3, 1, 0, 0, 1);
        Expect.due("statement of the world that it was split from", x.statement(1, 2, 15), 0);
        Expect.due("split(0)", x.split(0), 3);
        Expect.due("split(0)", x.split(0), 4);
        Expect.due("split(4)", x.split(4), 5);
        Expect.due("split when there are 6", x.split(0), -1);
        Expect.due("split(6) when there are 6", x.split(6), -1);
        Expect.due("worlds", x.count(0), 6);
        spoilsApart();
    }

    private static void spoilsApart() {
        ForkWatch x = new ForkWatch();
        Calls.put(x, 0, 3, 1, 2);
        x.split(0);
        x.spoil(1, 3, 0, 1);
        x.poke(1, 2, 5, 1);
        Calls.readsAs(x, 0, 3, 1, 2);
        Expect.due("a byte poked in the twin", x.statement(0, 2, 5), 0);
    }

    private static void promise7Show() {
        ForkWatch x = new ForkWatch();
        Expect.due("show(0, 1) of none", x.show(0, 1), -1);
        x.split(0);
        x.split(0);
        Expect.due("show(3, 2)", x.show(3, 2), 0);
        Expect.due("show(3, 1)", x.show(3, 1), 2);
        Expect.due("show(3, 1) once more", x.show(3, 1), 1);
        for (int none : NO_CLIENT) {
            Expect.due("show of client " + none, x.show(none, 0), -1);
        }
        for (int none : new int[] {-1, 3, 6, Integer.MIN_VALUE, Integer.MAX_VALUE}) {
            Expect.due("show of world " + none, x.show(3, none), -1);
        }
        Expect.due("shown", x.count(7), 1);
        Expect.due("shown to another", x.count(6), 0);
        Calls.put(x, 3, 0, 77);
        Calls.readsAs(x, 0, 0);
        x.show(1, 1);
        Calls.readsAs(x, 1, 0, 77);
        x.show(0, 1);
        Expect.due("a client that went on elsewhere", x.read(0, 0), -3);
        x.show(0, 0);
        Calls.readsAs(x, 0, 0);
    }

    private static void promise8Graft() {
        ForkWatch x = new ForkWatch();
        x.split(0);
        Calls.put(x, 1, 0, 5);
        int[] theirs = new int[84];
        for (int i = 0; i < 84; i++) {
            theirs[i] = x.statement(0, 1, i);
        }
        Expect.due("graft(1, 1, 0)", x.graft(1, 1, 0), true);
        for (int i = 0; i < 84; i++) {
            Expect.due("grafted byte " + i, x.statement(1, 1, i), theirs[i]);
        }
        Expect.due("only that client's", x.statement(1, 0, 11), 0);
        Expect.due("the other way round nothing changed", x.statement(0, 1, 11), 1);
        x.poke(0, 1, 11, 1);
        Expect.due("what was grafted stands for itself", x.statement(1, 1, 11), 1);
        x.poke(0, 1, 11, 1);
        x.show(1, 1);
        Expect.due("the files did not come along", x.read(1, 0), -5);
        Expect.due("its own once more", x.graft(0, 0, 0), true);
        for (int none : new int[] {-1, 2, 6, Integer.MIN_VALUE, Integer.MAX_VALUE}) {
            Expect.due("graft to world " + none, x.graft(none, 0, 0), false);
            Expect.due("graft from world " + none, x.graft(0, 0, none), false);
        }
        for (int none : NO_CLIENT) {
            Expect.due("graft of client " + none, x.graft(0, none, 0), false);
        }
        Calls.readsAs(x, 0, 0, 5);
    }

    private static void promise9Poke() {
        ForkWatch x = new ForkWatch();
        Expect.due("poke(0, 1, 0, 255)", x.poke(0, 1, 0, 255), true);
        Expect.due("its byte", x.statement(0, 1, 0), 254);
        Expect.due("what the client remembers", x.statement(-1, 1, 0), 1);
        Expect.due("read", x.read(0, 0), -2);
        Expect.due("poke(0, 1, 0, 254)", x.poke(0, 1, 0, 254), true);
        Expect.due("its byte then", x.statement(0, 1, 0), 0);
        x.poke(0, 1, 0, 1);
        Expect.due("read when it was put back", x.read(0, 0), 0);
        Expect.due("poke of the last byte", x.poke(0, 3, 83, 1), true);
        Expect.due("read", x.read(0, 0), -2);
        x.poke(0, 3, 83, 1);
        for (int none : NO_MASK) {
            Expect.due("poke with mask " + none, x.poke(0, 0, 0, none), false);
        }
        for (int none : NO_STATEMENT_BYTE) {
            Expect.due("poke of byte " + none, x.poke(0, 0, none, 1), false);
        }
        for (int none : NO_CLIENT) {
            Expect.due("poke of client " + none, x.poke(0, none, 0, 1), false);
        }
        for (int none : new int[] {-1, 1, 6, Integer.MIN_VALUE, Integer.MAX_VALUE}) {
            Expect.due("poke of world " + none, x.poke(none, 0, 0, 1), false);
        }
        Expect.due("read after pokes that were refused", x.read(0, 0), 0);
    }

    private static void promise10Spoil() {
        ForkWatch x = new ForkWatch();
        Calls.put(x, 0, 15, 1, 2, 3);
        Expect.due("spoil(0, 15, 2, 255)", x.spoil(0, 15, 2, 255), true);
        Expect.due("read", x.read(1, 15), -5);
        Expect.due("spoil(0, 15, 2, 254)", x.spoil(0, 15, 2, 254), true);
        Expect.due("read of another file", x.read(1, 0), -5);
        Expect.due("spoil(0, 15, 2, 1)", x.spoil(0, 15, 2, 1), true);
        Calls.readsAs(x, 1, 15, 1, 2, 3);
        for (int none : new int[] {-1, 3, 11, 12, Integer.MIN_VALUE, Integer.MAX_VALUE}) {
            Expect.due("spoil of byte " + none, x.spoil(0, 15, none, 1), false);
        }
        Expect.due("spoil of an empty file", x.spoil(0, 0, 0, 1), false);
        for (int none : NO_MASK) {
            Expect.due("spoil with mask " + none, x.spoil(0, 15, 0, none), false);
        }
        for (int none : NO_FILE) {
            Expect.due("spoil of file " + none, x.spoil(0, none, 0, 1), false);
        }
        for (int none : new int[] {-1, 1, 6, Integer.MIN_VALUE, Integer.MAX_VALUE}) {
            Expect.due("spoil of world " + none, x.spoil(none, 15, 0, 1), false);
        }
        Calls.put(x, 2, 15, 8);
        Expect.due("spoil behind the end of what was longer", x.spoil(0, 15, 1, 1), false);
        Calls.readsAs(x, 1, 15, 8);
    }

    private static void promise11Exchange() {
        ForkWatch x = new ForkWatch();
        Expect.due("exchange of first statements", x.exchange(0, 3), 0);
        Calls.put(x, 0, 0, 1);
        Expect.due("exchange(0, 1)", x.exchange(0, 1), 0);
        Expect.due("exchange(1, 0)", x.exchange(1, 0), 0);
        x.split(0);
        x.show(1, 1);
        Calls.put(x, 1, 0, 2);
        Expect.due("exchange, one is behind the other", x.exchange(0, 1), 0);
        Calls.put(x, 0, 0, 3);
        Expect.due("exchange of parted ones", x.exchange(0, 1), 1);
        Expect.due("the other way round", x.exchange(1, 0), 1);
        Expect.due("with one that did nothing", x.exchange(1, 3), 0);
        for (int c = 0; c < 4; c++) {
            Expect.due("exchange with itself", x.exchange(c, c), -1);
        }
        for (int none : NO_CLIENT) {
            Expect.due("exchange(0, " + none + ")", x.exchange(0, none), -1);
            Expect.due("exchange(" + none + ", 0)", x.exchange(none, 0), -1);
            Expect.due("exchange(" + none + ", " + none + ")", x.exchange(none, none), -1);
        }
        x.poke(0, 0, 7, 255);
        Expect.due("it is about what they remember", x.exchange(0, 3), 0);
        Expect.due("an exchange is no operation", x.count(1), 3);
    }

    private static void promise12Statement() {
        ForkWatch x = new ForkWatch();
        x.split(0);
        x.show(3, 1);
        Calls.put(x, 3, 4, 6);
        byte[][] files = new byte[16][0];
        byte[] before = Model.signed(3, new long[4], Model.root(files));
        files[4] = new byte[] {6};
        byte[] after = Model.signed(3, new long[] {0, 0, 0, 1}, Model.root(files));
        Calls.saysAs(x, 0, 3, before);
        Calls.saysAs(x, 1, 3, after);
        Calls.saysAs(x, -1, 3, after);
        for (int none : new int[] {-2, 2, 6, Integer.MIN_VALUE, Integer.MAX_VALUE}) {
            Expect.due("statement of world " + none, x.statement(none, 0, 0), -1);
        }
        for (int world = -1; world < 2; world++) {
            for (int none : NO_CLIENT) {
                Expect.due("statement of client " + none, x.statement(world, none, 0), -1);
            }
            for (int none : NO_STATEMENT_BYTE) {
                Expect.due("statement byte " + none, x.statement(world, 0, none), -1);
            }
        }
    }

    private static void promise13Seen() {
        ForkWatch x = new ForkWatch();
        Calls.seesAs(x, 2, 0, 0, 0, 0);
        Calls.put(x, 2, 0, 1);
        Calls.put(x, 2, 1, 1);
        Calls.readsAs(x, 1, 0, 1);
        Calls.seesAs(x, 0, 0, 0, 0, 0);
        Calls.seesAs(x, 1, 0, 1, 2, 0);
        Calls.seesAs(x, 2, 0, 0, 2, 0);
        Calls.readsAs(x, 3, 0, 1);
        Calls.seesAs(x, 3, 0, 1, 2, 1);
        for (int none : NO_CLIENT) {
            Expect.due("seen(" + none + ", 0)", x.seen(none, 0), -1);
            Expect.due("seen(0, " + none + ")", x.seen(0, none), -1);
        }
        manyCounts();
    }

    /** More than one byte of a count is used. */
    private static void manyCounts() {
        ForkWatch x = new ForkWatch();
        for (int i = 0; i < 300; i++) {
            Expect.due("read " + i, x.read(1, 0), 0);
        }
        Calls.seesAs(x, 1, 0, 300, 0, 0);
        Expect.due("the higher byte", x.statement(0, 1, 10), 1);
        Expect.due("the lower byte", x.statement(0, 1, 11), 44);
        Expect.due("read", x.read(0, 0), 0);
        Calls.seesAs(x, 0, 1, 300, 0, 0);
        Expect.due("plain()", x.plain(), true);
    }

    private static void promise14Digest() {
        for (int length : new int[] {0, 1, 3, 54, 55, 56, 57, 63, 64}) {
            ForkWatch x = new ForkWatch();
            byte[] bytes = new byte[length];
            for (int i = 0; i < length; i++) {
                Calls.feedAll(x, 255 - 3 * i);
                bytes[i] = (byte) (255 - 3 * i);
            }
            byte[] digest = Model.sha(bytes);
            byte[] mac = Model.mac(bytes);
            for (int i = 0; i < 32; i++) {
                Expect.due("digest(0, " + i + ") of " + length, x.digest(0, i), digest[i] & 255);
                Expect.due("digest(1, " + i + ") of " + length, x.digest(1, i), mac[i] & 255);
            }
            Expect.due("it stays", x.count(3), length);
        }
        ForkWatch x = new ForkWatch();
        for (int none : new int[] {-1, 2, Integer.MIN_VALUE, Integer.MAX_VALUE}) {
            Expect.due("digest(" + none + ", 0)", x.digest(none, 0), -1);
        }
        for (int none : new int[] {-1, 32, Integer.MIN_VALUE, Integer.MAX_VALUE}) {
            Expect.due("digest(0, " + none + ")", x.digest(0, none), -1);
            Expect.due("digest(1, " + none + ")", x.digest(1, none), -1);
        }
    }

    /** TheoremTest looks whether plain() looks at all. */
    private static void promise15Plain() {
        ForkWatch x = new ForkWatch();
        Calls.put(x, 0, 0, 1);
        Calls.readsAs(x, 1, 0, 1);
        x.split(0);
        x.show(1, 1);
        x.show(2, 1);
        Calls.put(x, 1, 0, 2);
        Calls.put(x, 0, 0, 3);
        Calls.put(x, 2, 0, 4);
        Calls.readsAs(x, 1, 0, 4);
        Calls.readsAs(x, 3, 0, 3);
        Calls.readsAs(x, 0, 0, 3);
        Expect.due("parted", x.exchange(0, 1), 1);
        Expect.due("plain() of parted worlds", x.plain(), true);
        x.show(3, 1);
        Expect.due("read of one brought over", x.read(3, 0), -3);
        Expect.due("plain() after a stopped operation", x.plain(), true);
        x.graft(1, 0, 0);
        x.spoil(1, 0, 0, 1);
        x.poke(0, 0, 0, 1);
        Expect.due("plain() when something was changed", x.plain(), true);
    }

    private static void promise16Count() {
        ForkWatch x = new ForkWatch();
        x.split(0);
        x.split(0);
        Calls.feedAll(x, 1, 2);
        Expect.due("read", x.read(0, 0), 0);
        Expect.due("read", x.read(0, 0), 0);
        Expect.due("write", x.write(0, 0), 1);
        Calls.feedAll(x, 1);
        x.show(0, 1);
        x.show(2, 2);
        x.show(3, 1);
        Expect.due("read", x.read(0, 0), -3);
        Expect.due("write", x.write(0, 0), -3);
        Calls.feedAll(x, 1, 2, 3);
        Expect.due("no operation", x.read(0, 99), -9);
        int[] counts = {3, 3, 2, 3, 1, 0, 2, 1};
        for (int what = 0; what < 8; what++) {
            Expect.due("count(" + what + ")", x.count(what), counts[what]);
        }
        for (int none : new int[] {-1, 8, -9, Integer.MIN_VALUE, Integer.MAX_VALUE}) {
            Expect.due("count(" + none + ")", x.count(none), -1);
        }
    }
}
