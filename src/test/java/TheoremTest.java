import java.lang.reflect.Field;
import java.util.Collections;
import java.util.List;

/**
 * plain() is true for every run of calls, so a program that never looked would pass any run. Here what
 * the object noted is falsified from inside, and plain() has to find it.
 */
public final class TheoremTest {
    public static void main(String[] args) throws ReflectiveOperationException {
        falsifiedAnswer();
        falsifiedWrite();
        falsifiedOrder();
        falsifiedOrderOfTheFirst();
        falsifiedAnswerOfEachClient();
        nothingIsSaidOfChangedRuns();
        Expect.end();
    }

    private static Object inside(Object object, String name) throws ReflectiveOperationException {
        Field field = object.getClass().getDeclaredField(name);
        field.setAccessible(true);
        return field.get(object);
    }

    private static List<?> notes(ForkWatch x) throws ReflectiveOperationException {
        return (List<?>) inside(inside(x, "history"), "operations");
    }

    private static void flipContent(ForkWatch x, int note) throws ReflectiveOperationException {
        ((int[]) inside(notes(x).get(note), "content"))[0] ^= 1;
    }

    /** Client 0 writes, 1 reads, 2 writes, 3 writes another file. */
    private static ForkWatch used() {
        ForkWatch x = new ForkWatch();
        x.feed(1);
        x.write(0, 0);
        x.read(1, 0);
        x.feed(2);
        x.write(2, 0);
        x.feed(3);
        x.write(3, 1);
        return x;
    }

    private static void falsifiedAnswer() throws ReflectiveOperationException {
        ForkWatch x = used();
        Expect.due("plain as it was", x.plain(), true);
        flipContent(x, 1);
        Expect.due("plain with another answer of the read", x.plain(), false);
        flipContent(x, 1);
        Expect.due("plain when that was put back", x.plain(), true);
    }

    private static void falsifiedWrite() throws ReflectiveOperationException {
        ForkWatch x = used();
        flipContent(x, 0);
        Expect.due("plain with another write before the read", x.plain(), false);
        ForkWatch y = used();
        flipContent(y, 2);
        Expect.due("plain with another write that nobody read", y.plain(), true);
    }

    /** All answers stay, but what client 2 has seen is no beginning of what client 3 has seen. */
    private static void falsifiedOrder() throws ReflectiveOperationException {
        ForkWatch x = used();
        Collections.swap(notes(x), 2, 3);
        Expect.due("plain with two operations exchanged", x.plain(), false);
    }

    /** The same with the first two operations, the greater client's being the first. */
    private static void falsifiedOrderOfTheFirst() throws ReflectiveOperationException {
        ForkWatch x = new ForkWatch();
        x.feed(1);
        x.write(3, 0);
        x.feed(2);
        x.write(2, 1);
        Expect.due("plain as it was", x.plain(), true);
        Collections.swap(notes(x), 0, 1);
        Expect.due("plain with the first two exchanged", x.plain(), false);
    }

    private static void falsifiedAnswerOfEachClient() throws ReflectiveOperationException {
        for (int client = 0; client < 4; client++) {
            ForkWatch x = new ForkWatch();
            x.feed(1);
            x.write((client + 1) % 4, 0);
            x.read(client, 0);
            flipContent(x, 1);
            Expect.due("plain with another answer of client " + client, x.plain(), false);
        }
    }

    private static void nothingIsSaidOfChangedRuns() throws ReflectiveOperationException {
        ForkWatch grafted = used();
        flipContent(grafted, 1);
        grafted.graft(0, 0, 1);
        Expect.due("plain after a graft that was refused", grafted.plain(), false);
        grafted.graft(0, 0, 0);
        Expect.due("plain after a graft", grafted.plain(), true);
        ForkWatch poked = used();
        flipContent(poked, 1);
        poked.poke(0, 0, 0, 256);
        Expect.due("plain after a poke that was refused", poked.plain(), false);
        poked.poke(0, 0, 0, 255);
        Expect.due("plain after a poke", poked.plain(), true);
        ForkWatch spoilt = used();
        flipContent(spoilt, 1);
        spoilt.spoil(0, 0, 1, 1);
        Expect.due("plain after a spoil that was refused", spoilt.plain(), false);
        spoilt.spoil(0, 0, 0, 1);
        Expect.due("plain after a spoil", spoilt.plain(), true);
    }
}
