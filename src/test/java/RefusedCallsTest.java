import java.util.ArrayList;
import java.util.Arrays;
import java.util.List;

/**
 * The words behind 'BAD', 'NONE' and 'False', promise by promise: every argument too small, too large or
 * far away, alone and together with the others, at a new object, a used one and a full one. A refused
 * call has its answer, and all that can be seen is then as it was before.
 */
public final class RefusedCallsTest {
    private static final int MIN = Integer.MIN_VALUE;
    private static final int MAX = Integer.MAX_VALUE;
    /** An object has 512 calls, and Look asks for up to 336 of them. */
    private static final int CALLS_BESIDE_A_LOOK = 60;

    private static final Range CLIENT = new Range(0, 3);
    private static final Range FILE = new Range(0, 15);
    private static final Range STATEMENT_BYTE = new Range(0, 83);
    private static final Range MASK = new Range(1, 255);

    private interface Call {
        long on(ForkWatch x, int[] arguments);
    }

    private record Range(int least, int most) {
        boolean has(int value) {
            return value >= least && value <= most;
        }

        int[] edges() {
            return new int[] {MIN, least - 1, least, most, most + 1, MAX};
        }

        /** Numbers that would be fine if some of their bits were lost on the way. */
        int[] farAway() {
            return new int[] {least + 256, least + 65536, least + (1 << 28), least + (1 << 30), least + MIN, -most - 1};
        }
    }

    private record State(String name, int worlds, int lastRead, Look.Run run) {
        Range world() {
            return new Range(0, worlds - 1);
        }
    }

    private static final State NEW = new State("new", 1, 0, x -> { });

    /** Three worlds, files 0 (full), 7 (made shorter) and 15 (emptied), parted clients, 2 bytes collected. */
    private static final State USED = new State("used", 3, 12, x -> {
        Calls.put(x, 0, 0, Calls.bytes(12));
        Calls.put(x, 3, 7, 1, 2, 3);
        Calls.put(x, 3, 7, 4);
        Calls.put(x, 3, 15, 5);
        Calls.put(x, 3, 15);
        x.split(0);
        x.split(1);
        x.show(1, 1);
        x.show(2, 2);
        Expect.due("read(0, 0)", x.read(0, 0), 12);
        Expect.due("read(1, 0)", x.read(1, 0), 12);
        Calls.feedAll(x, 8, 9);
    });

    /** Six worlds and 64 bytes collected. */
    private static final State FULL = new State("full", 6, 1, x -> {
        Calls.put(x, 2, 0, 6);
        Expect.due("read(2, 0)", x.read(2, 0), 1);
        for (int world = 0; world < 5; world++) {
            Expect.due("split(" + world + ")", x.split(world), world + 1);
        }
        x.show(3, 5);
        Calls.feedAll(x, Calls.bytes(64));
    });

    private static final State[] STATES = {NEW, USED, FULL};

    public static void main(String[] args) {
        promise2FeedNoneSuch();
        promise2FeedNoRoom();
        promise3WriteNoSuchClientOrFile();
        promise3WriteMoreThan12Bytes();
        promise4ReadNoSuchClientOrFile();
        promise5GotNoneSuch();
        promise6SplitNoneSuch();
        promise6SplitThereAre6();
        promise7ShowNoneSuch();
        promise8GraftNoneSuch();
        promise9PokeNoneSuch();
        promise10SpoilNoneSuch();
        promise10SpoilBehindTheEnd();
        promise11ExchangeNoneSuch();
        promise11ExchangeTheSame();
        promise12StatementNoneSuch();
        promise13SeenNoneSuch();
        promise14DigestNoneSuch();
        promise16CountAnotherNumber();
        Expect.end();
    }

    /** Every choice of edges with one wrong at least; and each argument far away, the others being fine. */
    private static List<int[]> wrongOnes(Range... ranges) {
        List<int[]> all = new ArrayList<>();
        addEdges(all, new int[ranges.length], 0, false, ranges);
        for (int which = 0; which < ranges.length; which++) {
            for (int value : ranges[which].farAway()) {
                int[] arguments = new int[ranges.length];
                for (int k = 0; k < ranges.length; k++) {
                    arguments[k] = k == which ? value : ranges[k].least;
                }
                if (!ranges[which].has(value)) {
                    all.add(arguments);
                }
            }
        }
        return all;
    }

    private static void addEdges(List<int[]> all, int[] arguments, int at, boolean wrong, Range... ranges) {
        if (at == ranges.length) {
            if (wrong) {
                all.add(arguments.clone());
            }
            return;
        }
        for (int value : ranges[at].edges()) {
            arguments[at] = value;
            addEdges(all, arguments, at + 1, wrong || !ranges[at].has(value), ranges);
        }
    }

    private static void refused(String name, State state, long due, Call call, List<int[]> all) {
        String before = Look.at(state.run);
        for (int from = 0; from < all.size(); from += CALLS_BESIDE_A_LOOK) {
            List<int[]> some = all.subList(from, Math.min(all.size(), from + CALLS_BESIDE_A_LOOK));
            Look.Run refusals = x -> {
                for (int[] arguments : some) {
                    String what = name + Arrays.toString(arguments) + " of a " + state.name + " object";
                    Expect.due(what, call.on(x, arguments), due);
                }
            };
            boolean same = Look.at(state.run, refusals).equals(before);
            Expect.due("all is as before " + name + " was refused to a " + state.name + " object", same, true);
            ForkWatch x = new ForkWatch();
            state.run.on(x);
            refusals.on(x);
            Expect.due("none of them was stopped by a check", x.count(2), 0);
        }
    }

    private static long number(boolean answer) {
        return answer ? 1 : 0;
    }

    /** "A byte, 0 .. 255 .. False: none such." */
    private static void promise2FeedNoneSuch() {
        for (State state : STATES) {
            refused("feed", state, 0, (x, a) -> number(x.feed(a[0])), wrongOnes(new Range(0, 255)));
        }
    }

    /** "At most 64 .. False: .. no room." */
    private static void promise2FeedNoRoom() {
        List<int[]> bytes = List.of(new int[] {0}, new int[] {1}, new int[] {255});
        refused("feed", FULL, 0, (x, a) -> number(x.feed(a[0])), bytes);
    }

    /** "NONE: no such client, file .. it stays collected then." */
    private static void promise3WriteNoSuchClientOrFile() {
        for (State state : STATES) {
            refused("write", state, ForkWatch.NONE, (x, a) -> x.write(a[0], a[1]), wrongOnes(CLIENT, FILE));
        }
    }

    /** "NONE: .. more than 12 bytes: it stays collected then." */
    private static void promise3WriteMoreThan12Bytes() {
        List<int[]> everyWrite = new ArrayList<>();
        for (int i = 0; i < 4 * 16; i++) {
            everyWrite.add(new int[] {i / 16, i % 16});
        }
        for (int length : new int[] {13, 14, 63, 64}) {
            State state = new State(length + " bytes", 1, 0, x -> Calls.feedAll(x, Calls.bytes(length)));
            refused("write", state, ForkWatch.NONE, (x, a) -> x.write(a[0], a[1]), everyWrite);
        }
    }

    /** "NONE: no such client, file." */
    private static void promise4ReadNoSuchClientOrFile() {
        for (State state : STATES) {
            refused("read", state, ForkWatch.NONE, (x, a) -> x.read(a[0], a[1]), wrongOnes(CLIENT, FILE));
        }
    }

    /** "BAD: none such." */
    private static void promise5GotNoneSuch() {
        for (State state : STATES) {
            Range read = new Range(0, state.lastRead - 1);
            refused("got", state, ForkWatch.BAD, (x, a) -> x.got(a[0]), wrongOnes(read));
        }
    }

    /** "BAD: none such." */
    private static void promise6SplitNoneSuch() {
        for (State state : STATES) {
            refused("split", state, ForkWatch.BAD, (x, a) -> x.split(a[0]), wrongOnes(state.world()));
        }
    }

    /** "BAD: .. there are 6." */
    private static void promise6SplitThereAre6() {
        List<int[]> worlds = new ArrayList<>();
        for (int world = 0; world < 6; world++) {
            worlds.add(new int[] {world});
        }
        refused("split", FULL, ForkWatch.BAD, (x, a) -> x.split(a[0]), worlds);
    }

    /** "BAD: none such." */
    private static void promise7ShowNoneSuch() {
        for (State state : STATES) {
            refused("show", state, ForkWatch.BAD, (x, a) -> x.show(a[0], a[1]), wrongOnes(CLIENT, state.world()));
        }
    }

    /** "False: none such." */
    private static void promise8GraftNoneSuch() {
        for (State state : STATES) {
            List<int[]> all = wrongOnes(state.world(), CLIENT, state.world());
            refused("graft", state, 0, (x, a) -> number(x.graft(a[0], a[1], a[2])), all);
        }
    }

    /** "Mask (1 .. 255) .. False: none such." */
    private static void promise9PokeNoneSuch() {
        for (State state : STATES) {
            List<int[]> all = wrongOnes(state.world(), CLIENT, STATEMENT_BYTE, MASK);
            refused("poke", state, 0, (x, a) -> number(x.poke(a[0], a[1], a[2], a[3])), all);
        }
    }

    /** "Likewise. False: none such." Only the used object's file 0 has all twelve bytes. */
    private static void promise10SpoilNoneSuch() {
        List<int[]> all = wrongOnes(USED.world(), FILE, new Range(0, 11), MASK);
        refused("spoil", USED, 0, (x, a) -> number(x.spoil(a[0], a[1], a[2], a[3])), all);
    }

    /** "(Also behind its end)": of one that is full, was made shorter, was emptied, or was empty always. */
    private static void promise10SpoilBehindTheEnd() {
        List<int[]> all = new ArrayList<>();
        int[][] ends = {{0, 12}, {7, 1}, {15, 0}, {8, 0}};
        for (int world = 0; world < 3; world++) {
            for (int[] end : ends) {
                for (int i = end[1]; i <= 13; i++) {
                    all.add(new int[] {world, end[0], i});
                }
            }
        }
        refused("spoil", USED, 0, (x, a) -> number(x.spoil(a[0], a[1], a[2], 1)), all);
    }

    /** "BAD: none such." */
    private static void promise11ExchangeNoneSuch() {
        for (State state : STATES) {
            refused("exchange", state, ForkWatch.BAD, (x, a) -> x.exchange(a[0], a[1]), wrongOnes(CLIENT, CLIENT));
        }
    }

    /** "BAD: .. the same." */
    private static void promise11ExchangeTheSame() {
        List<int[]> clients = List.of(new int[] {0}, new int[] {1}, new int[] {2}, new int[] {3});
        for (State state : STATES) {
            refused("exchange", state, ForkWatch.BAD, (x, a) -> x.exchange(a[0], a[0]), clients);
        }
    }

    /** "World - 1: of the one that the client remembers. BAD: none such." */
    private static void promise12StatementNoneSuch() {
        for (State state : STATES) {
            List<int[]> all = wrongOnes(new Range(-1, state.worlds - 1), CLIENT, STATEMENT_BYTE);
            refused("statement", state, ForkWatch.BAD, (x, a) -> x.statement(a[0], a[1], a[2]), all);
        }
    }

    /** "BAD: none such." */
    private static void promise13SeenNoneSuch() {
        for (State state : STATES) {
            refused("seen", state, ForkWatch.BAD, (x, a) -> x.seen(a[0], a[1]), wrongOnes(CLIENT, CLIENT));
        }
    }

    /** "BAD: none such." */
    private static void promise14DigestNoneSuch() {
        for (State state : STATES) {
            List<int[]> all = wrongOnes(new Range(0, 1), new Range(0, 31));
            refused("digest", state, ForkWatch.BAD, (x, a) -> x.digest(a[0], a[1]), all);
        }
    }

    /** "BAD: another number." */
    private static void promise16CountAnotherNumber() {
        for (State state : STATES) {
            refused("count", state, ForkWatch.BAD, (x, a) -> x.count(a[0]), wrongOnes(new Range(0, 7)));
        }
    }
}
