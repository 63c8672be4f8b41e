import java.util.Arrays;
import java.util.Random;

/** Long random runs of calls: each answer is compared with the model's. */
public final class ModelTest {
    private static final int RUNS = 1500;
    private static final int CALLS = 512;
    private static final int[] EDGES = {Integer.MIN_VALUE, -10, -2, -1, 4, 5, 6, 7, 8, 9, 10, 11, 12, 30,
        31, 99, 100, 9999, 10000, Integer.MAX_VALUE};
    private static final int KINDS = 30;
    private static final long[] NAMED = new long[KINDS];

    public static void main(String[] args) {
        Checks checks = new Checks();
        for (int run = 0; run < RUNS; run++) {
            play(checks, run);
        }
        for (int kind = 0; kind < KINDS; kind++) {
            checks.due("calls of kind " + kind + " that were not refused, 1 if some",
                    NAMED[kind] > 0 ? 1 : 0, 1);
        }
        checks.end("ModelTest");
    }

    private static void play(Checks checks, int run) {
        Random random = new Random(run);
        CoconutShies shies = new CoconutShies();
        Model model = new Model();
        String pending = "";
        for (int call = 0; call < CALLS; call++) {
            int kind;
            int[] a = new int[6];
            if (!pending.isEmpty()) {
                kind = pending.charAt(0) == '!' ? 1 : pending.charAt(0) == '.' ? 3 : 0;
                a[0] = pending.charAt(0);
                pending = pending.substring(1);
            } else if (call == 0 || random.nextInt(150) == 0) {
                pending = randomText(random) + "!.";
                kind = 2;
            } else {
                kind = random.nextInt(12) == 0 ? random.nextInt(KINDS) : 4 + random.nextInt(KINDS - 4);
                a = arguments(random, kind);
            }
            long got = answer(shies, kind, a);
            long want = answer(model, kind, a);
            NAMED[kind] += got >= 0 || got == -9 ? 1 : 0;
            checks.due("run " + run + ", call " + call + ", kind " + kind + " " + Arrays.toString(a), got, want);
        }
    }

    /** A fair, as a rule; one text of six has a wrong byte, or an end that is cut off. */
    private static String randomText(Random random) {
        StringBuilder text = new StringBuilder("S").append(random.nextInt(3)).append(random.nextInt(10));
        boolean[] taken = new boolean[8];
        int least = random.nextInt(4) == 0 ? 0 : 1;
        int mostHusks = least + random.nextInt(6 - least);
        int husks = 0;
        int throwers = least + random.nextInt(5 - least);
        int laws = random.nextInt(5);
        for (int i = 0; i < 60; i++) {
            int part = random.nextInt(3);
            if (part == 0 && husks < mostHusks) {
                int place = random.nextInt(8);
                if (!taken[place]) {
                    taken[place] = true;
                    husks++;
                    text.append('H').append(place).append(1 + random.nextInt(9)).append(random.nextInt(4));
                }
            } else if (part == 1 && throwers > 0) {
                throwers--;
                text.append('T').append(random.nextInt(4)).append(1 + random.nextInt(9)).append(random.nextInt(4));
            } else if (part == 2 && laws > 0 && husks > 1) {
                laws--;
                int falls = random.nextInt(husks);
                int other = (falls + 1 + random.nextInt(husks - 1)) % husks;
                text.append('L').append(falls).append(other).append(random.nextInt(3) / 2);
            }
        }
        if (random.nextInt(6) == 0) {
            int at = random.nextInt(text.length());
            if (random.nextBoolean()) {
                text.setCharAt(at, "SHTL0123456789:/x".charAt(random.nextInt(17)));
            } else {
                text.setLength(at);
            }
        }
        return text.toString();
    }

    /** For each call the bounds below which its arguments mostly are. */
    private static int[] boundsOf(int kind) {
        switch (kind) {
            case 0: return new int[] {256};
            case 4: return new int[] {9};
            case 5: return new int[] {5, 9};
            case 6: return new int[] {4, 4};
            case 7: case 8: case 14: return new int[] {4, 8, 3};
            case 9: case 10: case 18: case 23: return new int[] {5};
            case 12: return new int[] {3};
            case 15: return new int[] {5, 2};
            case 16: return new int[] {4, 5};
            case 17: return new int[] {2};
            case 19: return new int[] {5, 1};
            case 20: return new int[] {4, 2};
            case 21: return new int[] {5, 12, 2};
            case 24: case 28: case 29: return new int[] {2};
            case 25: return new int[] {4, 8, 5, 5, 11, 2};
            case 26: return new int[] {1000};
            case 27: return new int[] {31};
            default: return new int[0];
        }
    }

    private static int[] arguments(Random random, int kind) {
        int[] bounds = boundsOf(kind);
        int[] a = new int[6];
        for (int i = 0; i < bounds.length; i++) {
            boolean edge = random.nextInt(25) == 0;
            a[i] = edge ? EDGES[random.nextInt(EDGES.length)] : random.nextInt(bounds[i]);
        }
        if (kind == 19 && random.nextInt(12) != 0) {
            a[1] = 0;
            for (int i = 0; i < a[0] && i < 4; i++) {
                a[1] = a[1] * 100 + random.nextInt(7) * 10 + random.nextInt(5);
            }
        }
        return a;
    }

    private static long answer(CoconutShies x, int kind, int[] a) {
        switch (kind) {
            case 0: return x.write(a[0]);
            case 1: return x.fault();
            case 2: return x.wipe();
            case 3: return x.fair();
            case 4: return x.about(a[0]);
            case 5: return x.husk(a[0], a[1]);
            case 6: return x.thrower(a[0], a[1]);
            case 7: return x.lands(a[0], a[1], a[2]);
            case 8: return x.toss(a[0], a[1], a[2]);
            case 9: return x.set(a[0]);
            case 10: return x.nail(a[0]);
            case 11: return x.pay();
            case 12: return x.blow(a[0]);
            case 13: return x.undo();
            case 14: return x.felled(a[0], a[1], a[2]);
            case 15: return x.fewest(a[0], a[1] == 1);
            case 16: return x.winds(a[0], a[1]);
            case 17: return x.match(a[0] == 1);
            case 18: return x.nails(a[0]);
            case 19: return x.judge(a[0], a[1]);
            case 20: return x.share(a[0], a[1] == 1);
            case 21: return x.see(a[0], a[1], a[2]);
            case 22: return x.unsee();
            case 23: return x.holds(a[0]);
            case 24: return x.rests(a[0]);
            case 25: return x.odds(a[0], a[1], a[2], a[3], a[4], a[5] == 1);
            case 26: return x.seed(a[0] * 1234567890123L);
            case 27: return x.fairs(a[0]);
            case 28: return x.keep(a[0]);
            default: return x.again(a[0]);
        }
    }

    private static long answer(Model x, int kind, int[] a) {
        switch (kind) {
            case 0: return x.write(a[0]);
            case 1: return x.fault();
            case 2: return x.wipe();
            case 3: return x.fair();
            case 4: return x.about(a[0]);
            case 5: return x.husk(a[0], a[1]);
            case 6: return x.thrower(a[0], a[1]);
            case 7: return x.lands(a[0], a[1], a[2]);
            case 8: return x.toss(a[0], a[1], a[2]);
            case 9: return x.set(a[0]);
            case 10: return x.nail(a[0]);
            case 11: return x.pay();
            case 12: return x.blow(a[0]);
            case 13: return x.undo();
            case 14: return x.felled(a[0], a[1], a[2]);
            case 15: return x.fewest(a[0], a[1] == 1);
            case 16: return x.winds(a[0], a[1]);
            case 17: return x.match(a[0] == 1);
            case 18: return x.nails(a[0]);
            case 19: return x.judge(a[0], a[1]);
            case 20: return x.share(a[0], a[1] == 1);
            case 21: return x.see(a[0], a[1], a[2]);
            case 22: return x.unsee();
            case 23: return x.holds(a[0]);
            case 24: return x.rests(a[0]);
            case 25: return x.odds(a[0], a[1], a[2], a[3], a[4], a[5] == 1);
            case 26: return x.seed(a[0] * 1234567890123L);
            case 27: return x.fairs(a[0]);
            case 28: return x.keep(a[0]);
            default: return x.again(a[0]);
        }
    }
}
