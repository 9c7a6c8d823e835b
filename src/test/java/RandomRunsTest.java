import java.lang.reflect.Method;
import java.util.ArrayDeque;
import java.util.ArrayList;
import java.util.Arrays;
import java.util.Deque;
import java.util.List;
import java.util.Map;
import java.util.Random;
import java.util.TreeMap;

/**
 * Runs of calls that a fixed seed draws, on OnceStores and on PlainStore: every answer must be the same, and behind
 * each call all that can be seen of packs and index.
 */
public final class RandomRunsTest {
    private static final int CALLS = 512;
    private static final String[] CALLS_AND_ANSWERS_TO_SEE = {
        "feed FULL", "cut BAD", "byteOf BAD", "compare 0", "compare 1", "quota BAD",
        "file BAD", "file FULL", "file CLASH", "entry BAD", "entry FULL",
        "sub BAD", "sub FULL", "sub MISSING", "remove BAD",
        "commit BAD", "commit FULL", "commit CLASH", "commit MISSING", "commit OVER", "crash BAD",
        "drop BAD", "load BAD", "load NONE", "load MISSING", "head BAD", "head MISSING",
        "owned BAD", "owned MISSING", "clean FULL", "clean 0", "clean 2",
        "spoil BAD", "lie BAD", "broken 0", "broken 3", "pack BAD", "pack NONE", "packByte BAD", "row BAD", "count BAD"};

    private static final Map<String, Method> REAL = callsOf(OnceStores.class), PLAIN = callsOf(PlainStore.class);

    private final Random random;
    private final int kind;
    private final OnceStores real = new OnceStores();
    private final PlainStore plain = new PlainStore();
    private final Deque<Object[]> planned = new ArrayDeque<>();
    private final List<String> told = new ArrayList<>();
    private final Map<String, Integer> seen;

    private RandomRunsTest(long seed, Map<String, Integer> seen) {
        random = new Random(seed);
        kind = (int) (seed % 7);
        this.seen = seen;
    }

    public static void main(String[] args) {
        int runs = args.length > 0 ? Integer.parseInt(args[0]) : 420;
        Map<String, Integer> seen = new TreeMap<>();
        for (int seed = 0; seed < runs; seed++) {
            if (!new RandomRunsTest(seed, seen).run(seed)) {
                System.exit(1);
            }
        }
        int missed = 0;
        for (String s : CALLS_AND_ANSWERS_TO_SEE) {
            if (!seen.containsKey(s)) {
                System.out.println("no run came to: " + s);
                missed++;
            }
        }
        if (args.length > 1) {
            seen.forEach((k, v) -> System.out.println(k + ": " + v));
        }
        System.out.println(runs + " random runs answered alike");
        if (missed != 0) {
            System.exit(1);
        }
    }

    private boolean run(int seed) {
        for (int i = 0; i < CALLS; i++) {
            while (planned.isEmpty()) {
                plan();
            }
            Object[] call = planned.poll();
            int due = make(PLAIN, plain, call);
            int got = make(REAL, real, call);
            told.add(name(call) + " -> " + got);
            see((String) call[0], due);
            String other = got != due ? "answer, due is " + due : difference();
            if (other != null) {
                System.out.println("run " + seed + ", call " + i + ": " + other);
                told.forEach(System.out::println);
                return false;
            }
        }
        return true;
    }

    private void see(String call, int answer) {
        String[] codes = {"BAD", "NONE", "FULL", "CLASH", "MISSING", "OVER"};
        String s = answer < 0 ? codes[-1 - answer] : answer < 4 ? String.valueOf(answer) : "more";
        seen.merge(call + " " + s, 1, Integer::sum);
    }

    private static String name(Object[] call) {
        StringBuilder b = new StringBuilder(call[0] + "(");
        for (int i = 1; i < call.length; i++) {
            b.append(i > 1 ? ", " : "").append(call[i]);
        }
        return b.append(")").toString();
    }

    /** These calls change nothing, so they may be made beside the run. */
    private String difference() {
        for (int what = 0; what < 7; what++) {
            if (real.count(what) != plain.count(what)) {
                return "count(" + what + ") is " + real.count(what) + ", due is " + plain.count(what);
            }
        }
        for (int i = 0; i < plain.count(0); i++) {
            for (int what = 0; what < 4; what++) {
                if (real.row(i, what) != plain.row(i, what)) {
                    return "row " + i + ", " + what + " is " + real.row(i, what) + ", due is " + plain.row(i, what);
                }
            }
        }
        for (int p = 0; p < 14; p++) {
            int size = plain.pack(p, 0);
            if (real.pack(p, 0) != size) {
                return "pack " + p + " has " + real.pack(p, 0) + ", due is " + size;
            }
            for (int i = 0; i < size; i++) {
                if (real.packByte(p, i) != plain.packByte(p, i)) {
                    return "pack " + p + " byte " + i;
                }
            }
        }
        return null;
    }

    // ---- drawing calls

    private int below(int n) {
        return random.nextInt(n);
    }

    private void add(Object... call) {
        planned.add(call);
    }

    private int number(int most) {
        int wild = below(40);
        return wild == 0 ? -1 : wild == 1 ? most + 1 : wild == 2 ? random.nextInt() : below(most + 1);
    }

    private int headNumber() {
        return number(Math.max(0, plain.count(2) - 1));
    }

    private int name() {
        return below(20) == 0 ? number(255) : kind == 3 ? number(14) : number(4);
    }

    private int pack() {
        return below(3) == 0 ? number(13) : below(4) == 0 ? 12 + below(2) : number(3);
    }

    private int placeIn(int pack) {
        return number(Math.max(0, plain.pack(pack, 0) - 1));
    }

    /** Few different rows of bytes, so that blocks meet again; some differ from others by what the digest can't see. */
    private void planFeed() {
        int times = kind == 2 ? 8 + below(13) : below(5);
        for (int i = 0; i < times; i++) {
            int seed = kind == 2 ? random.nextInt() : below(6);
            int twin = kind == 4 && below(3) == 0 ? 0x0121 : 0;
            int last = kind == 0 && below(2) == 0 ? 0 : seed * 16;
            add("feed", seed * 7919, seed * seed << 16, seed * 0x01010101 ^ twin, seed + 1 << 20, last ^ twin);
        }
        if (below(3) == 0) {
            add("cut", below(3) == 0 ? number(20) : 4 * below(5));
        }
    }

    private void planFile() {
        planFeed();
        int w = number(1);
        int f = number(3);
        add("file", w, f);
        if (below(3) != 0) {
            add("entry", w, name(), f);
        }
    }

    /** Flips bytes so that the digest often stays: 33 times what one byte changes is undone in the next one. */
    private void planTwinSpoil() {
        int p = pack();
        int at = placeIn(p);
        int mask = 1 << below(3);
        add("spoil", p, at, mask);
        if (below(2) == 0) {
            planAny();
        }
        add("spoil", p, at + 1, 33 * mask & 255);
        if (33 * mask > 255 && below(2) == 0) {
            add("spoil", p, at, 33 * mask >> 8);
        }
    }

    private void planPassingSpoil() {
        int p = pack();
        int at = placeIn(p);
        int mask = number(255);
        add("spoil", p, at, mask);
        for (int i = below(4); i > 0; i--) {
            planAny();
        }
        add("spoil", p, at, mask);
    }

    /** Writes a RECORD into the room of another one: other bytes, often of another length, for a DIGEST that is in use. */
    private void planForge() {
        int rows = plain.count(0);
        int p = pack();
        int size = plain.pack(p, 0);
        int place = rows == 0 || below(2) == 0 ? 0 : plain.row(below(rows), 3);
        int room = place + 5 < size ? plain.packByte(p, place + 1) * 256 + plain.packByte(p, place + 2) : 0;
        int length = 3 + below(10);
        if (rows == 0 || room < length + 5 || place + 5 + room > size) {
            return;
        }
        int row = below(rows);
        int[] block = new int[length];
        for (int i = 0; i < length; i++) {
            block[i] = i >= length - 3 ? -1 : below(4) == 0 ? below(256) : below(5);
        }
        int[] forged = Kit.forgedOrNull(plain.row(row, 0), plain.row(row, 1), block);
        if (forged != null) {
            int[] bytes = Kit.joined(Kit.record(plain.row(row, 0), plain.row(row, 1), forged),
                    Kit.row(1), Kit.two(room - length - 5), Kit.row(0, 0));
            for (int i = 0; i < bytes.length; i++) {
                add("spoil", p, place + i, plain.packByte(p, place + i) ^ bytes[i]);
            }
        }
    }

    private void planSpoil() {
        int p = pack();
        add("spoil", p, placeIn(p), below(2) == 0 ? 1 << below(8) : number(255));
    }

    private void planLook() {
        switch (below(9)) {
            case 0: add("byteOf", number(Math.max(0, plain.count(4) - 1))); break;
            case 1: add("pack", number(13), number(2)); break;
            case 2: add("packByte", number(13), number(599)); break;
            case 3: add("row", number(plain.count(0)), number(3)); break;
            case 4: add("count", number(6)); break;
            case 5: add("rotten"); break;
            case 6: add("broken"); break;
            case 7: add("owned", number(3)); break;
            default: add("head", headNumber(), number(6)); break;
        }
    }

    private void planDeep() {
        int w = below(2);
        add("sub", w, name(), below(4) == 0 ? headNumber() : Math.max(0, plain.count(2) - 1));
        if (below(3) == 0) {
            add("remove", w, name());
        }
        add("commit", w, number(3));
    }

    /** A disk that stays full answers nothing new. */
    private void planRelief() {
        for (int i = below(plain.count(2) + 1); i > 0; i--) {
            add("drop", 0);
        }
        if (below(2) == 0) {
            add("crash", below(2));
        }
        add("clean");
    }

    private void plan() {
        boolean stuck = plain.count(1) == 12 || plain.count(2) == 20;
        if (stuck && below(8) == 0) {
            planRelief();
            return;
        }
        if (kind == 5 && below(3) != 0) {
            planDeep();
            return;
        }
        if (kind == 3 && below(12) == 0) {
            add("sub", number(1), name(), headNumber());
            return;
        }
        if (kind == 6 && below(8) == 0) {
            planForge();
            return;
        }
        if ((kind == 1 || kind == 4 || kind == 6) && below(5) == 0) {
            switch (below(4)) {
                case 0: planTwinSpoil(); break;
                case 1: planPassingSpoil(); break;
                case 2: planSpoil(); break;
                default: add("lie", number(Math.max(0, plain.count(0) - 1)), number(599)); break;
            }
            return;
        }
        planAny();
    }

    private void planAny() {
        switch (below(22)) {
            case 0: case 1: case 2: case 3: case 4: planFile(); break;
            case 5: case 6: case 7: case 8: add("commit", number(1), number(3)); break;
            case 9: case 10: case 11: planLook(); break;
            case 12: case 13: add("load", headNumber(), name(), below(3) == 0 ? name() : -1); break;
            case 14: add("sub", number(1), name(), headNumber()); break;
            case 15: add("remove", number(1), name()); break;
            case 16: add("entry", number(1), name(), number(3)); break;
            case 17: add("drop", headNumber()); break;
            case 18: add(below(kind == 2 ? 4 : 2) == 0 ? "clean" : "anew"); break;
            case 19: planRare(); break;
            default: planFeed(); break;
        }
    }

    private void planRare() {
        switch (below(4)) {
            case 0: add("crash", number(1)); break;
            case 1: add("quota", number(3), below(3) == 0 ? number(10000) : below(2) == 0 ? 5000 : 300); break;
            case 2: add("compare", below(3) != 0); break;
            default: planSpoil(); break;
        }
    }

    // ---- making calls

    /** The document's calls of a class, by name. */
    private static Map<String, Method> callsOf(Class<?> c) {
        Map<String, Method> calls = new TreeMap<>();
        for (Method face : OnceStores.class.getMethods()) {
            if (face.getDeclaringClass() == OnceStores.class) {
                try {
                    calls.put(face.getName(), c.getDeclaredMethod(face.getName(), face.getParameterTypes()));
                } catch (NoSuchMethodException e) {
                    throw new IllegalStateException(e);
                }
            }
        }
        return calls;
    }

    private static int make(Map<String, Method> calls, Object on, Object[] call) {
        try {
            return (Integer) calls.get((String) call[0]).invoke(on, Arrays.copyOfRange(call, 1, call.length));
        } catch (ReflectiveOperationException e) {
            throw new IllegalStateException(name(call), e);
        }
    }
}
