/**
 * All that can be seen of an object, as one text: what two runs of calls left is the same if the texts
 * are. An object may be asked 512 times only, so the run is made anew for each part.
 */
final class Look {
    interface Run {
        void on(ForkWatch x);
    }

    private final Run[] runs;
    private final StringBuilder text = new StringBuilder();

    private Look(Run... runs) {
        this.runs = runs;
    }

    /** The runs are made one behind the other; how many operations were stopped is left out. */
    static String at(Run... runs) {
        Look look = new Look(runs);
        look.numbers();
        look.statements();
        look.files();
        return look.text.toString();
    }

    private ForkWatch made() {
        ForkWatch x = new ForkWatch();
        for (Run run : runs) {
            run.on(x);
        }
        return x;
    }

    private void add(String what, long answer) {
        text.append(what).append(' ').append(answer).append('\n');
    }

    private void numbers() {
        ForkWatch x = made();
        for (int what = 0; what < 8; what++) {
            if (what != 2) {
                add("count " + what, x.count(what));
            }
        }
        for (int i = 0; i < 12; i++) {
            add("got " + i, x.got(i));
        }
        for (int i = 0; i < 32; i++) {
            add("digest " + i, x.digest(0, i));
        }
        for (int a = 0; a < 4; a++) {
            for (int b = 0; b < 4; b++) {
                add("exchange " + a + ' ' + b, x.exchange(a, b));
                add("seen " + a + ' ' + b, x.seen(a, b));
            }
        }
    }

    private void statements() {
        int worlds = made().count(0);
        for (int world = -1; world < worlds; world++) {
            ForkWatch x = made();
            for (int i = 0; i < 4 * 84; i++) {
                add("statement " + world + ' ' + i, x.statement(world, i / 84, i % 84));
            }
        }
    }

    /** A file that a check hides can still be told by where a spoil falls behind its end. */
    private void files() {
        int worlds = made().count(0);
        for (int world = 0; world < worlds; world++) {
            ForkWatch x = made();
            for (int f = 0; f < 16; f++) {
                int length = 0;
                while (length < 12 && x.spoil(world, f, length, 1)) {
                    length++;
                }
                add("length " + world + ' ' + f, length);
            }
        }
        for (int f = 0; f < 16; f++) {
            for (int client = 0; client < 4; client++) {
                ForkWatch x = made();
                add("read " + client + ' ' + f, x.read(client, f));
                for (int i = 0; i < 12; i++) {
                    add("its byte " + i, x.got(i));
                }
            }
        }
    }
}
