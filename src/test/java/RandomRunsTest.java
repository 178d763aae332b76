import java.util.Random;

/** Long runs of calls by a fixed seed, each answer held against the model's; plain() is always true. */
public final class RandomRunsTest {
    private static final int[] ODD = {-1, -2, 4, 6, 12, 16, 32, 64, 84, 255, 256, Integer.MIN_VALUE, Integer.MAX_VALUE};

    private final Random random;
    private final boolean tampers;
    private final ForkWatch x = new ForkWatch();
    private final Model m = new Model();
    private final StringBuilder calls = new StringBuilder();
    private int made = 0;

    private RandomRunsTest(long seed, boolean tampers) {
        random = new Random(seed);
        this.tampers = tampers;
    }

    public static void main(String[] args) {
        for (int seed = 0; seed < 400 && Expect.wrongSoFar() == 0; seed++) {
            new RandomRunsTest(seed, seed % 2 == 1).run();
        }
        Expect.end();
    }

    private void run() {
        // One turn makes three calls at most; after the 512th nothing is promised.
        for (int turn = 0; turn < 512 && made < 510 && Expect.wrongSoFar() == 0; turn++) {
            int dice = random.nextInt(100);
            if (dice < 50) {
                use();
            } else if (dice < 70) {
                serve();
            } else {
                look();
            }
        }
        if (Expect.wrongSoFar() != 0) {
            System.out.println("the run:" + calls);
        }
    }

    /** Mostly a number below the bound, now and then one that is out of every bound. */
    private int below(int bound) {
        return random.nextInt(40) == 0 ? ODD[random.nextInt(ODD.length)] : random.nextInt(bound);
    }

    private int world() {
        return below(Math.max(1, m.count(0)));
    }

    private void due(String call, long got, long want) {
        made++;
        calls.append(' ').append(call);
        Expect.due(call, got, want);
    }

    private void due(String call, boolean got, boolean want) {
        due(call, got ? 1 : 0, want ? 1 : 0);
    }

    private void use() {
        int client = below(4);
        int file = below(random.nextBoolean() ? 16 : 3);
        int b = below(256);
        switch (random.nextInt(3)) {
            case 0:
                // More than 12 bytes can never be written again, so most runs stay below that.
                if (m.count(3) < 12 || random.nextInt(200) == 0) {
                    due("feed(" + b + ")", x.feed(b), m.feed(b));
                }
                break;
            case 1:
                due("write(" + client + ", " + file + ")", x.write(client, file), m.write(client, file));
                break;
            default:
                due("read(" + client + ", " + file + ")", x.read(client, file), m.read(client, file));
        }
    }

    private void serve() {
        int w = world();
        int v = world();
        int client = below(4);
        int file = below(16);
        int mask = 1 << random.nextInt(8);
        switch (random.nextInt(tampers ? 7 : 3)) {
            case 0:
                if (random.nextInt(5) == 0) {
                    due("split(" + w + ")", x.split(w), m.split(w));
                }
                break;
            case 1:
            case 2:
                due("show(" + client + ", " + w + ")", x.show(client, w), m.show(client, w));
                break;
            case 3:
            case 4:
                due("graft(" + w + ", " + client + ", " + v + ")", x.graft(w, client, v), m.graft(w, client, v));
                break;
            case 5:
                int i = below(84);
                pokeAndMend(w, client, i, mask);
                break;
            default:
                int j = below(random.nextBoolean() ? 2 : 13);
                spoilAndMend(w, file, j, mask);
        }
    }

    private void pokeAndMend(int w, int client, int i, int mask) {
        String call = "poke(" + w + ", " + client + ", " + i + ", " + mask + ")";
        due(call, x.poke(w, client, i, mask), m.poke(w, client, i, mask));
        use();
        if (random.nextInt(10) != 0) {
            due(call, x.poke(w, client, i, mask), m.poke(w, client, i, mask));
        }
    }

    private void spoilAndMend(int w, int file, int i, int mask) {
        String call = "spoil(" + w + ", " + file + ", " + i + ", " + mask + ")";
        due(call, x.spoil(w, file, i, mask), m.spoil(w, file, i, mask));
        use();
        if (random.nextInt(10) != 0) {
            due(call, x.spoil(w, file, i, mask), m.spoil(w, file, i, mask));
        }
    }

    private void look() {
        int a = below(4);
        int b = below(4);
        int w = below(m.count(0) + 1) - 1;
        switch (random.nextInt(7)) {
            case 0:
                int g = below(13);
                due("got(" + g + ")", x.got(g), m.got(g));
                break;
            case 1:
                due("exchange(" + a + ", " + b + ")", x.exchange(a, b), m.exchange(a, b));
                break;
            case 2:
                int i = below(84);
                due("statement(" + w + ", " + a + ", " + i + ")", x.statement(w, a, i), m.statement(w, a, i));
                break;
            case 3:
                due("seen(" + a + ", " + b + ")", x.seen(a, b), m.seen(a, b));
                break;
            case 4:
                int kind = below(2);
                int d = below(32);
                due("digest(" + kind + ", " + d + ")", x.digest(kind, d), m.digest(kind, d));
                break;
            case 5:
                due("plain()", x.plain(), true);
                break;
            default:
                int what = below(8);
                due("count(" + what + ")", x.count(what), m.count(what));
        }
    }
}
