import java.util.ArrayList;
import java.util.Arrays;
import java.util.HashMap;
import java.util.List;
import java.util.Map;
import java.util.Random;

/**
 * Long runs of calls, drawn from fixed seeds, on the class and on a slow model that is
 * written from the document in another way; each answer of the two must be the same.
 */
public final class LifeboatHouseModel {
    private static int wrong = 0;

    // ---- the model: state

    private int now = 0;
    private int size = 4;
    private int gather = 9;
    private final int[] miles = {0, 40, 80, 120, 160, 200};
    private final int[] needs = new int[6];
    private final int[] high = new int[25];
    private final int[] worth = new int[12];
    /** As personOf tells them: 20 numbers each. */
    private final List<int[]> people = new ArrayList<>();
    /** Station, fuel, away till, then speeds by sea. */
    private final List<int[]> boats = new ArrayList<>();
    private final List<int[]> calls = new ArrayList<>();
    private final List<int[]> logs = new ArrayList<>();
    private final int[] refusals = new int[7];

    private LifeboatHouseModel() {
        Arrays.fill(high, -1);
    }

    private int no(int n) {
        refusals[-n]++;
        return n;
    }

    private static boolean in(int v, int least, int most) {
        return v >= least && v <= most;
    }

    private int band() {
        int day = now / 1440;
        return now % 1440 / 360 + (day % 7 > 4 ? 4 : 0);
    }

    private int part(int[] p, int band) {
        if (now / 1440 > p[2] || p[3] > now) return 0;
        return (int) Math.floor(1024.0 * (p[12 + band] + 1) / (p[4 + band] + 2));
    }

    // ---- the model: chance, with rows in a map

    private int chance(int station, int band) {
        Map<List<Integer>, Long> rows = new HashMap<>();
        rows.put(List.of(0, 0, 0, 0, 0), 1L << 20);
        for (int[] p : people) {
            int part = part(p, band);
            if (p[0] != station || part == 0 || p[1] % 8 == 0) continue;
            Map<List<Integer>, Long> next = new HashMap<>();
            for (Map.Entry<List<Integer>, Long> e : rows.entrySet()) {
                long comes = e.getValue() * part / 1024;
                next.merge(come(e.getKey(), p[1]), comes, Long::sum);
                next.merge(e.getKey(), e.getValue() - comes, Long::sum);
            }
            rows = next;
        }
        long sum = 0;
        for (Map.Entry<List<Integer>, Long> e : rows.entrySet()) {
            if (stands(e.getKey())) sum += e.getValue();
        }
        return (int) sum;
    }

    private static List<Integer> come(List<Integer> row, int skills) {
        List<Integer> r = new ArrayList<>(row);
        if (skills >= 8) {
            r.set(1, Math.min(6, r.get(1) + 1));
            return r;
        }
        r.set(0, Math.min(6, r.get(0) + 1));
        int kind = skills % 4;
        if (kind > 0) r.set(1 + kind, Math.min(2, r.get(1 + kind) + 1));
        return r;
    }

    private boolean stands(List<Integer> r) {
        int all = r.get(0) + (r.get(0) > 1 ? r.get(1) : 0);
        if (all < size) return false;
        List<Integer> kinds = new ArrayList<>();
        for (int k = 1; k <= 3; k++) {
            for (int i = 0; i < r.get(1 + k); i++) kinds.add(k);
        }
        for (int i = 0; i < kinds.size(); i++) {
            for (int j = 0; j < kinds.size(); j++) {
                if (i != j && (kinds.get(i) & 1) != 0 && (kinds.get(j) & 2) != 0) return true;
            }
        }
        return false;
    }

    // ---- the model: boats

    private boolean open(int station, int hour) {
        int v = high[hour % 25];
        if (v < 0) v = Arrays.stream(high).filter(h -> h >= 0).min().orElse(0);
        return v >= needs[station];
    }

    private int way(int[] b, int[] c) {
        return Math.max(miles[b[0]] - c[0], c[0] - miles[b[0]]) + c[1];
    }

    private static int up(int a, int by) {
        return a / by + (a % by > 0 ? 1 : 0);
    }

    private boolean can(int[] b, int[] c) {
        int v = b[3 + c[2]];
        return v != 0 && 2 * way(b, c) <= b[1] * v;
    }

    private int launch(int[] b) {
        int ready = (b[2] > now ? b[2] : now) + gather;
        for (int m = ready; m < ready + 48 * 60; m++) {
            if (open(b[0], m / 60)) return m;
        }
        return -9;
    }

    private int reached(int[] b, int[] c) {
        if (!can(b, c) || launch(b) == -9) return -9;
        return launch(b) + up(way(b, c) * 60, b[3 + c[2]]);
    }

    private int first(int[] c) {
        int best = -9;
        for (int i = boats.size() - 1; i >= 0; i--) {
            int r = reached(boats.get(i), c);
            if (r != -9 && (best == -9 || r <= reached(boats.get(best), c))) best = i;
        }
        return best;
    }

    private int two(int[] a, int[] b, int what) {
        List<long[]> all = new ArrayList<>();
        for (int i = 0; i < boats.size(); i++) {
            for (int j = 0; j < boats.size(); j++) {
                long x = reached(boats.get(i), a);
                long y = reached(boats.get(j), b);
                if (i != j && x != -9 && y != -9) all.add(new long[] {Math.max(x, y), x + y, i, j});
            }
        }
        all.sort((p, q) -> Arrays.compare(p, q));
        return all.isEmpty() ? -9 : (int) all.get(0)[what == 0 ? 0 : what + 1];
    }

    private int ready(int station) {
        int n = 0;
        for (int[] b : boats) if (b[0] == station && b[2] <= now) n++;
        return n;
    }

    /** Helped, miles, then the helper of each station: 6 is none. Every plan is looked at. */
    private int[] flanks() {
        int[] best = null;
        for (int code = 0; code < 117649; code++) {
            int[] plan = new int[8];
            int rest = code;
            for (int s = 0; s < 6; s++) {
                plan[2 + s] = rest % 7;
                rest /= 7;
            }
            if (!goes(plan)) continue;
            if (best == null || Arrays.compare(plan, best) < 0) best = plan;
        }
        return best;
    }

    private boolean goes(int[] plan) {
        int[] left = new int[6];
        for (int s = 0; s < 6; s++) {
            int from = plan[2 + s];
            if (from == 6) continue;
            if (ready(s) > 0 || Math.abs(miles[s] - miles[from]) > 80) return false;
            left[from]++;
            if (ready(from) - left[from] < 1) return false;
            plan[0]--;
            plan[1] += Math.abs(miles[s] - miles[from]);
        }
        return true;
    }

    // ---- the model: search and training

    private int[] looks(int n, int eyes) {
        int[] w = worth.clone();
        int[] told = new int[n + 1];
        for (int i = 0; i < n; i++) {
            int best = 11;
            for (int b = 11; b >= 0; b--) if (w[b] * eyes / 10 >= w[best] * eyes / 10) best = b;
            told[n] += w[best] * eyes / 10;
            w[best] = w[best] * (10 - eyes) / 10;
            told[i] = best;
        }
        return told;
    }

    private int turn(int station, int i) {
        List<Integer> row = new ArrayList<>();
        for (int n = 0; n < people.size(); n++) if (people.get(n)[0] == station) row.add(n);
        row.sort((p, q) -> people.get(p)[2] - people.get(q)[2]);
        return i >= 0 && i < row.size() ? row.get(i) : -9;
    }

    // ---- the model: what each call answers

    private int answer(int kind, int a, int b, int c, boolean f) {
        boolean isPerson = in(a, 0, people.size() - 1);
        boolean isBoat = in(a, 0, boats.size() - 1);
        switch (kind) {
            case 2: {
                if (!in(a, 0, 5)) return no(-1);
                if (!in(b, 0, 1)) return no(-2);
                if (c < 0) return no(-4);
                if (c > (b == 0 ? 300 : 12)) return no(-6);
                int[] row = b == 0 ? miles : needs;
                int was = row[a];
                row[a] = c;
                return was;
            }
            case 3: {
                if (!in(a, 0, 5)) return no(-1);
                if (b < 0 || c < 0) return no(-4);
                if (b > 15 || c > 200 || people.size() == 40) return no(-6);
                int[] p = new int[20];
                p[0] = a;
                p[1] = b;
                p[2] = c;
                people.add(p);
                return people.size() - 1;
            }
            case 4: {
                if (!isPerson) return no(-1);
                if (b < 0) return no(-4);
                if (b > 200) return no(-6);
                int was = people.get(a)[2];
                people.get(a)[2] = b;
                return was;
            }
            case 5: {
                if (!isPerson) return no(-1);
                int[] p = people.get(a);
                if (p[4 + band()] == 200) return no(-6);
                if (f) p[12 + band()]++;
                return ++p[4 + band()];
            }
            case 6: return !isPerson || !in(b, 0, 7) ? no(-1) : part(people.get(a), b);
            case 7: {
                if (!in(a, 0, 1)) return no(-2);
                if (b < (a == 0 ? 2 : 5)) return no(-4);
                if (b > (a == 0 ? 6 : 30)) return no(-6);
                int was = a == 0 ? size : gather;
                if (a == 0) size = b; else gather = b;
                return was;
            }
            case 8: return !in(a, 0, 5) || !in(b, 0, 7) ? no(-1) : chance(a, b);
            case 9: {
                if (!in(a, 0, 5)) return no(-1);
                if (b < 0) return no(-4);
                if (b > 100) return no(-6);
                int n = 0;
                for (int band = 0; band < 8; band++) if (chance(a, band) < (1 << 20) * b / 100) n++;
                return n;
            }
            case 10: {
                if (!in(a, 0, 24)) return no(-1);
                if (b < -1) return no(-4);
                if (b > 12) return no(-6);
                high[a] = b;
                return 1;
            }
            case 11: {
                if (!in(a, 0, 5)) return no(-1);
                if (b < 0) return no(-4);
                if (b > 4000) return no(-6);
                return open(a, b) ? 1 : 0;
            }
            case 12: {
                if (a < 1) return no(-4);
                if ((long) now + a > 200000) return no(-6);
                now += a;
                return now;
            }
            case 13: {
                if (!in(a, 0, 5)) return no(-1);
                if (b < 1) return no(-4);
                if (b > 20 || boats.size() == 8) return no(-6);
                boats.add(new int[] {a, b, 0, 0, 0, 0, 0, 0});
                return boats.size() - 1;
            }
            case 14: {
                if (!isBoat || !in(b, 0, 4)) return no(-1);
                if (c < 0) return no(-4);
                if (c > 30) return no(-6);
                int was = boats.get(a)[3 + b];
                boats.get(a)[3 + b] = c;
                return was;
            }
            case 15: {
                if (!isBoat || !in(b, 0, 5)) return no(-1);
                if (boats.get(a)[2] > now) return no(-3);
                int was = boats.get(a)[0];
                boats.get(a)[0] = b;
                return was;
            }
            case 16: {
                if (!in(c, 0, 4)) return no(-1);
                if (a < 0 || b < 0) return no(-4);
                if (a > 300 || b > 60 || calls.size() == 20) return no(-6);
                calls.add(new int[] {a, b, c});
                return calls.size() - 1;
            }
            default: return answerMore(kind, a, b, c, f);
        }
    }

    private int answerMore(int kind, int a, int b, int c, boolean f) {
        boolean isPerson = in(a, 0, people.size() - 1);
        boolean isBoat = in(a, 0, boats.size() - 1);
        boolean isCall = in(b, 0, calls.size() - 1);
        switch (kind) {
            case 17: {
                if (!isBoat || !isCall) return no(-1);
                if (!in(c, 0, 2)) return no(-2);
                boolean can = can(boats.get(a), calls.get(b));
                if (c == 2) return can ? 1 : 0;
                int r = reached(boats.get(a), calls.get(b));
                return r == -9 ? -9 : c == 1 ? r : launch(boats.get(a));
            }
            case 18: return in(a, 0, calls.size() - 1) ? first(calls.get(a)) : no(-1);
            case 19: {
                if (!in(a, 0, calls.size() - 1) || !isCall || a == b) return no(-1);
                return in(c, 0, 2) ? two(calls.get(a), calls.get(b), c) : no(-2);
            }
            case 20: {
                if (!isBoat || !isCall) return no(-1);
                int[] boat = boats.get(a);
                int[] call = calls.get(b);
                int r = reached(boat, call);
                if (r == -9 || boat[2] > now) return no(-3);
                if (c < 0) return no(-4);
                if (c > 600 || logs.size() == 40) return no(-6);
                int v = boat[3 + call[2]];
                if (f) v = v < 2 ? 1 : v / 2;
                int home = r + c + up(way(boat, call) * 60, v);
                logs.add(new int[] {a, b, launch(boat), r, home});
                boat[2] = home;
                return home;
            }
            case 21: {
                if (!in(b, 0, 4)) return no(-2);
                return in(a, 0, logs.size() - 1) ? logs.get(a)[b] : -9;
            }
            case 22: return in(a, 0, 5) ? Math.min(1, ready(a)) : no(-1);
            case 23: return !in(a, 0, 1) ? no(-2) : a == 0 ? -flanks()[0] : flanks()[1];
            case 24: {
                if (!in(a, 0, 5)) return no(-1);
                int from = flanks()[2 + a];
                return from == 6 ? -9 : from;
            }
            case 25: case 26: {
                if (!in(a, 0, 11)) return no(-1);
                if (b < 0) return no(-4);
                if (b > (kind == 25 ? 9999 : 9)) return no(-6);
                int was = worth[a];
                worth[a] = kind == 25 ? b : was * (10 - b) / 10;
                return kind == 25 ? was : worth[a];
            }
            case 27: case 28: {
                if (a < 1 || b < 0) return no(-4);
                if (a > 20 || b > 9) return no(-6);
                if (kind == 27) return looks(a, b)[a];
                return in(c, 0, a - 1) ? looks(a, b)[c] : -9;
            }
            case 29: {
                if (!isPerson) return no(-1);
                if (b < now) return no(-4);
                if (b > 200000) return no(-6);
                int was = people.get(a)[3];
                people.get(a)[3] = b;
                return was;
            }
            case 30: return in(a, 0, 5) ? turn(a, b) : no(-1);
            case 31: return !isPerson ? no(-1) : in(b, 0, 19) ? people.get(a)[b] : no(-2);
            default: return told(a);
        }
    }

    private int told(int what) {
        int away = 0;
        int covered = 0;
        for (int[] b : boats) if (b[2] > now) away++;
        for (int s = 0; s < 6; s++) if (ready(s) > 0) covered++;
        int[] row = {now, band(), people.size(), boats.size(), away, calls.size(), logs.size(), covered};
        if (in(what, 0, 7)) return row[what];
        return in(what, 11, 16) ? refusals[what - 10] : -9;
    }

    // ---- the runs

    private static int asked(LifeboatHouse x, int kind, int a, int b, int c, boolean f) {
        switch (kind) {
            case 2: return x.station(a, b, c);
            case 3: return x.person(a, b, c);
            case 4: return x.papers(a, b);
            case 5: return x.page(a, f);
            case 6: return x.partOf(a, b);
            case 7: return x.set(a, b);
            case 8: return x.chance(a, b);
            case 9: return x.weak(a, b);
            case 10: return x.tide(a, b);
            case 11: return x.slip(a, b);
            case 12: return x.minutes(a);
            case 13: return x.boat(a, b);
            case 14: return x.speed(a, b, c);
            case 15: return x.move(a, b);
            case 16: return x.call(a, b, c);
            case 17: return x.reach(a, b, c);
            case 18: return x.first(a);
            case 19: return x.two(a, b, c);
            case 20: return x.send(a, b, c, f);
            case 21: return x.log(a, b);
            case 22: return x.covered(a);
            case 23: return x.flanks(a);
            case 24: return x.flank(a);
            case 25: return x.box(a, b);
            case 26: return x.look(a, b);
            case 27: return x.looks(a, b);
            case 28: return x.lookAt(a, b, c);
            case 29: return x.rest(a, b);
            case 30: return x.turn(a, b);
            case 31: return x.personOf(a, b);
            default: return x.count(a);
        }
    }

    /** The greatest fitting value of each argument, by kind of call: one beyond it on either side is drawn too. */
    private static final int[][] REACH = {
        {}, {}, {5, 1, 300}, {5, 15, 200}, {39, 200}, {12}, {12, 7}, {1, 30}, {5, 7}, {5, 100}, {24, 12}, {5, 4000},
        {900}, {5, 20}, {7, 4, 30}, {7, 5}, {300, 60, 4}, {7, 8, 2}, {8}, {8, 8, 2}, {7, 8, 600}, {12, 4}, {5}, {1},
        {5}, {11, 9999}, {11, 9}, {20, 9}, {20, 9, 20}, {12, 30000}, {5, 12}, {12, 19}, {17}};

    private static int drawn(Random r, int[] reach, int i) {
        if (i >= reach.length) return 0;
        int most = reach[i];
        int luck = r.nextInt(200);
        if (luck == 0) return -1;
        if (luck == 1) return most + 1;
        if (luck == 2) return r.nextBoolean() ? Integer.MIN_VALUE : Integer.MAX_VALUE;
        if (luck < 8) return r.nextBoolean() ? 0 : most;
        return r.nextInt(most + 1);
    }

    private static void run(int seed) {
        Random r = new Random(seed);
        LifeboatHouse x = new LifeboatHouse();
        LifeboatHouseModel m = new LifeboatHouseModel();
        int flavour = seed % 5;
        for (int n = 0; n < 512 && wrong < 20; n++) {
            int kind = kindFor(r, flavour, n);
            int[] reach = REACH[kind];
            int a = drawn(r, reach, 0);
            int b = drawn(r, reach, 1);
            int c = drawn(r, reach, 2);
            if (kind == 3 && r.nextInt(8) > 0) a = 0;
            if ((kind == 8 || kind == 9) && r.nextInt(4) > 0) a = 0;
            if (kind == 2 && b == 1 && r.nextInt(20) > 0) c = r.nextInt(8);
            if (kind == 13 && r.nextInt(20) > 0) {
                a = r.nextInt(3) * 2;
                b = 10 + r.nextInt(10);
            }
            if (kind == 14 && r.nextInt(20) > 0) c = 10 + r.nextInt(20);
            if (kind == 23 || kind == 24) {
                // the model's flanks are slow
                if (r.nextInt(3) > 0) continue;
            }
            boolean f = r.nextBoolean();
            int got = asked(x, kind, a, b, c, f);
            int due = m.answer(kind, a, b, c, f);
            if (got != due) {
                wrong++;
                System.out.println("seed " + seed + ", call " + n + ": promise " + kind + " (" + a + ", " + b + ", " + c
                    + ", " + f + ") answered " + got + ", the model " + due);
            }
        }
    }

    private static int kindFor(Random r, int flavour, int n) {
        int[] people = {3, 3, 5, 5, 5, 4, 6, 7, 8, 8, 9, 12, 29, 30, 31, 32};
        int[] sea = {2, 10, 12, 13, 14, 14, 14, 14, 15, 16, 17, 17, 18, 18, 19, 19, 19, 20, 20, 21, 11, 32};
        int[] cover = {2, 13, 14, 15, 15, 16, 20, 22, 23, 24, 24, 24, 12, 7, 32};
        int[] boxes = {25, 25, 26, 27, 28};
        int[][] rows = {people, sea, cover, boxes};
        if (flavour == 4 || r.nextInt(10) == 0) return 2 + r.nextInt(31);
        int[] row = rows[flavour];
        return row[r.nextInt(row.length)];
    }

    public static void main(String[] args) {
        int seeds = args.length > 0 ? Integer.parseInt(args[0]) : 60;
        for (int seed = 0; seed < seeds; seed++) run(seed);
        System.out.println(wrong == 0 ? "the class and the model agree" : "the class and the model differ");
        if (wrong != 0) System.exit(1);
    }
}
