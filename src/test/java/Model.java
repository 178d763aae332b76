import java.security.GeneralSecurityException;
import java.security.MessageDigest;
import java.util.ArrayList;
import java.util.Arrays;
import java.util.List;
import javax.crypto.spec.SecretKeySpec;

/**
 * The document once more, written apart from the program: with the digest and the MAC of the Java
 * library, byte rows that are never changed in place, and the whole tree made anew each time.
 */
final class Model {
    private static final class World {
        final byte[][] statements;
        final byte[][] files;

        World(byte[][] statements, byte[][] files) {
            this.statements = statements;
            this.files = files;
        }
    }

    private final List<World> worlds = new ArrayList<>();
    private final byte[][] remembered = new byte[4][];
    private final int[] shown = new int[4];
    private byte[] collected = {};
    private byte[] lastRead = {};
    private int well = 0;
    private int stopped = 0;

    Model() {
        byte[][] files = new byte[16][0];
        for (int c = 0; c < 4; c++) {
            remembered[c] = signed(c, new long[4], root(files));
        }
        worlds.add(new World(remembered.clone(), files));
    }

    static byte[] sha(byte[]... parts) {
        try {
            MessageDigest digest = MessageDigest.getInstance("SHA-256");
            for (byte[] part : parts) {
                digest.update(part);
            }
            return digest.digest();
        } catch (GeneralSecurityException e) {
            throw new IllegalStateException(e);
        }
    }

    static byte[] mac(byte[] bytes) {
        byte[] key = new byte[32];
        for (int i = 0; i < 32; i++) {
            key[i] = (byte) (i + 1);
        }
        try {
            javax.crypto.Mac mac = javax.crypto.Mac.getInstance("HmacSHA256");
            mac.init(new SecretKeySpec(key, "HmacSHA256"));
            return mac.doFinal(bytes);
        } catch (GeneralSecurityException e) {
            throw new IllegalStateException(e);
        }
    }

    static byte[] root(byte[][] files) {
        List<byte[]> level = new ArrayList<>();
        for (int f = 0; f < 16; f++) {
            level.add(sha(new byte[] {0, (byte) f, (byte) files[f].length}, files[f]));
        }
        while (level.size() > 1) {
            List<byte[]> above = new ArrayList<>();
            for (int i = 0; i < level.size(); i += 2) {
                above.add(sha(new byte[] {1}, level.get(i), level.get(i + 1)));
            }
            level = above;
        }
        return level.get(0);
    }

    static byte[] signed(int client, long[] counts, byte[] root) {
        byte[] body = new byte[52];
        body[0] = (byte) client;
        for (int i = 0; i < 16; i++) {
            body[4 + i] = (byte) (counts[i / 4] >> (24 - 8 * (i % 4)));
        }
        System.arraycopy(root, 0, body, 20, 32);
        return joined(body);
    }

    /** A statement of any 52 bytes with the MAC that belongs to them. */
    static byte[] joined(byte[] body) {
        byte[] all = Arrays.copyOf(body, 84);
        System.arraycopy(mac(body), 0, all, 52, 32);
        return all;
    }

    private static long[] counts(byte[] statement) {
        long[] counts = new long[4];
        for (int i = 0; i < 16; i++) {
            counts[i / 4] = counts[i / 4] * 256 + (statement[4 + i] & 255);
        }
        return counts;
    }

    private static boolean notAbove(byte[] a, byte[] b) {
        long[] x = counts(a);
        long[] y = counts(b);
        return x[0] <= y[0] && x[1] <= y[1] && x[2] <= y[2] && x[3] <= y[3];
    }

    private static boolean in(int i, int bound) {
        return i >= 0 && i < bound;
    }

    private static int greatest(World world) {
        for (int g = 0; g < 4; g++) {
            boolean top = true;
            for (byte[] other : world.statements) {
                top &= notAbove(other, world.statements[g]);
            }
            if (top) {
                return g;
            }
        }
        return -1;
    }

    private int check(int client, World world) {
        for (int c = 0; c < 4; c++) {
            byte[] s = world.statements[c];
            if (s[0] != c || !Arrays.equals(s, joined(Arrays.copyOf(s, 52)))) {
                return 1;
            }
        }
        if (!Arrays.equals(world.statements[client], remembered[client])) {
            return 2;
        }
        for (byte[] a : world.statements) {
            for (byte[] b : world.statements) {
                if (!notAbove(a, b) && !notAbove(b, a)) {
                    return 3;
                }
            }
        }
        byte[] told = Arrays.copyOfRange(world.statements[greatest(world)], 20, 52);
        return Arrays.equals(told, root(world.files)) ? 0 : 4;
    }

    /** Content that is null is not written: the operation reads then. */
    private int operate(int client, int file, byte[] content) {
        World world = worlds.get(shown[client]);
        int check = check(client, world);
        if (check != 0) {
            stopped++;
            return -1 - check;
        }
        long[] counts = counts(world.statements[greatest(world)]);
        counts[client]++;
        if (content != null) {
            world.files[file] = content;
        } else {
            lastRead = world.files[file];
        }
        remembered[client] = signed(client, counts, root(world.files));
        world.statements[client] = remembered[client];
        well++;
        return content != null ? 1 : lastRead.length;
    }

    boolean feed(int b) {
        if (!in(b, 256) || collected.length == 64) {
            return false;
        }
        collected = Arrays.copyOf(collected, collected.length + 1);
        collected[collected.length - 1] = (byte) b;
        return true;
    }

    int write(int client, int file) {
        if (!in(client, 4) || !in(file, 16) || collected.length > 12) {
            return -9;
        }
        byte[] content = collected;
        collected = new byte[0];
        return operate(client, file, content);
    }

    int read(int client, int file) {
        return in(client, 4) && in(file, 16) ? operate(client, file, null) : -9;
    }

    int got(int i) {
        return in(i, lastRead.length) ? lastRead[i] & 255 : -1;
    }

    int split(int world) {
        if (!in(world, worlds.size()) || worlds.size() == 6) {
            return -1;
        }
        World like = worlds.get(world);
        worlds.add(new World(like.statements.clone(), like.files.clone()));
        return worlds.size() - 1;
    }

    int show(int client, int world) {
        if (!in(client, 4) || !in(world, worlds.size())) {
            return -1;
        }
        int before = shown[client];
        shown[client] = world;
        return before;
    }

    boolean graft(int world, int client, int from) {
        if (!in(world, worlds.size()) || !in(client, 4) || !in(from, worlds.size())) {
            return false;
        }
        worlds.get(world).statements[client] = worlds.get(from).statements[client];
        return true;
    }

    private static byte[] flipped(byte[] row, int i, int mask) {
        byte[] copy = row.clone();
        copy[i] ^= (byte) mask;
        return copy;
    }

    boolean poke(int world, int client, int i, int mask) {
        if (!in(world, worlds.size()) || !in(client, 4) || !in(i, 84) || !in(mask - 1, 255)) {
            return false;
        }
        byte[][] statements = worlds.get(world).statements;
        statements[client] = flipped(statements[client], i, mask);
        return true;
    }

    boolean spoil(int world, int file, int i, int mask) {
        if (!in(world, worlds.size()) || !in(file, 16) || !in(mask - 1, 255)) {
            return false;
        }
        byte[][] files = worlds.get(world).files;
        if (!in(i, files[file].length)) {
            return false;
        }
        files[file] = flipped(files[file], i, mask);
        return true;
    }

    int exchange(int a, int b) {
        if (!in(a, 4) || !in(b, 4) || a == b) {
            return -1;
        }
        return notAbove(remembered[a], remembered[b]) || notAbove(remembered[b], remembered[a]) ? 0 : 1;
    }

    int statement(int world, int client, int i) {
        if (world < -1 || world >= worlds.size() || !in(client, 4) || !in(i, 84)) {
            return -1;
        }
        return (world == -1 ? remembered : worlds.get(world).statements)[client][i] & 255;
    }

    int seen(int client, int k) {
        return in(client, 4) && in(k, 4) ? (int) counts(remembered[client])[k] : -1;
    }

    int digest(int kind, int i) {
        return in(kind, 2) && in(i, 32) ? (kind == 0 ? sha(collected) : mac(collected))[i] & 255 : -1;
    }

    int count(int what) {
        int[] all = {worlds.size(), well, stopped, collected.length, shown[0], shown[1], shown[2], shown[3]};
        return in(what, 8) ? all[what] : -1;
    }
}
