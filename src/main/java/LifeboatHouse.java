import java.util.ArrayList;
import java.util.Arrays;

/** Lifeboat stations along a coast: their people, slips, boats, calls and searches. */
public final class LifeboatHouse {
    private static final int NOBODY = -1;
    private static final int OTHER = -2;
    private static final int STATE = -3;
    private static final int BELOW = -4;
    private static final int ROOM = -6;
    private static final int NONE = -9;
    private static final int REASONS = 6;

    private static final int MOST_MINUTES = 200000;
    private static final int HOUR_MINUTES = 60;
    private static final int DAY_HOURS = 24;
    private static final int BANDS = 8;

    private static final int STATIONS = 6;
    private static final int MOST_MILES = 300;
    private static final int MOST_FEET = 12;
    private static final int MILES_BETWEEN = 40;

    private static final int MOST_PEOPLE = 40;
    private static final int MOST_SKILLS = 15;
    private static final int MOST_DAYS = 200;
    private static final int MOST_PAGES = 200;
    private static final int HELM = 1;
    private static final int ENGINE = 2;
    private static final int CREW = 4;
    private static final int YOUNG = 8;
    private static final int FULL_PART = 1024;
    private static final int FULL_CHANCE = 1 << 20;

    private static final int LEAST_SIZE = 2;
    private static final int MOST_SIZE = 6;
    private static final int LEAST_GATHER = 5;
    private static final int MOST_GATHER = 30;

    private static final int MOST_HOUR = 4000;
    private static final int HOURS_AHEAD = 48;

    private static final int MOST_BOATS = 8;
    private static final int SEAS = 5;
    private static final int MOST_SPEED = 30;
    private static final int MOST_FUEL = 20;
    private static final int MOST_CALLS = 20;
    private static final int MOST_OUT = 60;
    private static final int MOST_HELP = 600;
    private static final int MOST_LOGS = 40;

    private static final int BOXES = 12;
    private static final int MOST_WORTH = 9999;
    private static final int MOST_EYES = 9;
    private static final int MOST_LOOKS = 20;

    private final int[] miles = new int[STATIONS];
    private final int[] needs = new int[STATIONS];
    private final ArrayList<Person> people = new ArrayList<>();
    private final ArrayList<Boat> boats = new ArrayList<>();
    private final ArrayList<Call> calls = new ArrayList<>();
    private final ArrayList<Launch> launches = new ArrayList<>();
    private final Tides tides = new Tides();
    private final CrewRows crewRows = new CrewRows();
    private final Pair pair = new Pair();
    private final FlankPlan flankPlan = new FlankPlan();
    private final Search search = new Search();
    private final int[] refused = new int[REASONS + 1];
    private int minute = 0;
    private int size = 4;
    private int gather = 9;

    public LifeboatHouse() {
        for (int s = 0; s < STATIONS; s++) {
            miles[s] = MILES_BETWEEN * s;
        }
    }

    // ---- people and crews

    public int station(int s, int what, int v) {
        if (!isStation(s)) return refuse(NOBODY);
        if (what != 0 && what != 1) return refuse(OTHER);
        int wrong = outside(v, 0, what == 0 ? MOST_MILES : MOST_FEET);
        if (wrong != 0) return refuse(wrong);
        int[] row = what == 0 ? miles : needs;
        int was = row[s];
        row[s] = v;
        return was;
    }

    public int person(int station, int skills, int papers) {
        if (!isStation(station)) return refuse(NOBODY);
        if (skills < 0 || papers < 0) return refuse(BELOW);
        if (skills > MOST_SKILLS || papers > MOST_DAYS || people.size() >= MOST_PEOPLE) return refuse(ROOM);
        people.add(new Person(station, skills, papers));
        return people.size() - 1;
    }

    public int papers(int person, int day) {
        Person p = personAt(person);
        if (p == null) return refuse(NOBODY);
        int wrong = outside(day, 0, MOST_DAYS);
        if (wrong != 0) return refuse(wrong);
        int was = p.papers;
        p.papers = day;
        return was;
    }

    public int page(int person, boolean came) {
        Person p = personAt(person);
        if (p == null) return refuse(NOBODY);
        int band = bandNow();
        if (p.paged[band] >= MOST_PAGES) return refuse(ROOM);
        p.paged[band]++;
        if (came) p.came[band]++;
        return p.paged[band];
    }

    public int partOf(int person, int band) {
        Person p = personAt(person);
        if (p == null || !isBand(band)) return refuse(NOBODY);
        return p.partIn(band, minute);
    }

    public int set(int what, int v) {
        if (what != 0 && what != 1) return refuse(OTHER);
        int wrong = what == 0 ? outside(v, LEAST_SIZE, MOST_SIZE) : outside(v, LEAST_GATHER, MOST_GATHER);
        if (wrong != 0) return refuse(wrong);
        int was = what == 0 ? size : gather;
        if (what == 0) {
            size = v;
        } else {
            gather = v;
        }
        return was;
    }

    public int chance(int station, int band) {
        if (!isStation(station) || !isBand(band)) return refuse(NOBODY);
        return crewChance(station, band);
    }

    public int weak(int station, int share) {
        if (!isStation(station)) return refuse(NOBODY);
        int wrong = outside(share, 0, 100);
        if (wrong != 0) return refuse(wrong);
        int enough = FULL_CHANCE * share / 100;
        int bands = 0;
        for (int band = 0; band < BANDS; band++) {
            if (crewChance(station, band) < enough) bands++;
        }
        return bands;
    }

    private int crewChance(int station, int band) {
        crewRows.clear();
        for (int i = 0; i < people.size(); i++) {
            Person p = people.get(i);
            if (p.station != station || (p.skills & (HELM | ENGINE | CREW)) == 0) continue;
            int part = p.partIn(band, minute);
            if (part > 0) crewRows.mayCome(p.skills, part);
        }
        return crewRows.standing(size);
    }

    // ---- tides and time

    public int tide(int hour, int v) {
        if (hour < 0 || hour >= Tides.HOURS) return refuse(NOBODY);
        int wrong = outside(v, Tides.MISSING, MOST_FEET);
        if (wrong != 0) return refuse(wrong);
        tides.tell(hour, v);
        return 1;
    }

    public int slip(int station, int hour) {
        if (!isStation(station)) return refuse(NOBODY);
        int wrong = outside(hour, 0, MOST_HOUR);
        if (wrong != 0) return refuse(wrong);
        return isOpen(station, hour) ? 1 : 0;
    }

    public int minutes(int n) {
        if (n < 1) return refuse(BELOW);
        if (n > MOST_MINUTES - minute) return refuse(ROOM);
        minute += n;
        return minute;
    }

    private boolean isOpen(int station, int hour) {
        return tides.feet(hour) >= needs[station];
    }

    private int bandNow() {
        int hour = minute / HOUR_MINUTES;
        int quarter = hour % DAY_HOURS / 6;
        return hour / DAY_HOURS % 7 >= 5 ? quarter + 4 : quarter;
    }

    // ---- boats and calls

    public int boat(int station, int fuel) {
        if (!isStation(station)) return refuse(NOBODY);
        if (fuel < 1) return refuse(BELOW);
        if (fuel > MOST_FUEL || boats.size() >= MOST_BOATS) return refuse(ROOM);
        boats.add(new Boat(station, fuel));
        return boats.size() - 1;
    }

    public int speed(int boat, int sea, int v) {
        Boat b = boatAt(boat);
        if (b == null || !isSea(sea)) return refuse(NOBODY);
        int wrong = outside(v, 0, MOST_SPEED);
        if (wrong != 0) return refuse(wrong);
        int was = b.speeds[sea];
        b.speeds[sea] = v;
        return was;
    }

    public int move(int boat, int station) {
        Boat b = boatAt(boat);
        if (b == null || !isStation(station)) return refuse(NOBODY);
        if (b.isAway(minute)) return refuse(STATE);
        int was = b.station;
        b.station = station;
        return was;
    }

    public int call(int miles, int out, int sea) {
        if (!isSea(sea)) return refuse(NOBODY);
        if (miles < 0 || out < 0) return refuse(BELOW);
        if (miles > MOST_MILES || out > MOST_OUT || calls.size() >= MOST_CALLS) return refuse(ROOM);
        calls.add(new Call(miles, out, sea));
        return calls.size() - 1;
    }

    public int reach(int boat, int call, int what) {
        Boat b = boatAt(boat);
        Call c = callAt(call);
        if (b == null || c == null) return refuse(NOBODY);
        if (what < 0 || what > 2) return refuse(OTHER);
        if (what == 2) return canGo(b, c) ? 1 : 0;
        if (!canGo(b, c)) return NONE;
        return what == 0 ? launchMinute(b) : reachedMinute(b, c);
    }

    public int first(int call) {
        Call c = callAt(call);
        if (c == null) return refuse(NOBODY);
        int best = NONE;
        int bestMinute = 0;
        for (int i = 0; i < boats.size(); i++) {
            int reached = reachedMinute(boats.get(i), c);
            if (reached != NONE && (best == NONE || reached < bestMinute)) {
                best = i;
                bestMinute = reached;
            }
        }
        return best;
    }

    public int two(int a, int b, int what) {
        Call one = callAt(a);
        Call other = callAt(b);
        if (one == null || other == null || a == b) return refuse(NOBODY);
        if (what < 0 || what > 2) return refuse(OTHER);
        pairBoats(one, other);
        if (what == 0) return pair.later;
        return what == 1 ? pair.oneBoat : pair.otherBoat;
    }

    public int send(int boat, int call, int help, boolean tows) {
        Boat b = boatAt(boat);
        Call c = callAt(call);
        if (b == null || c == null) return refuse(NOBODY);
        int reached = reachedMinute(b, c);
        if (reached == NONE || b.isAway(minute)) return refuse(STATE);
        if (help < 0) return refuse(BELOW);
        if (help > MOST_HELP || launches.size() >= MOST_LOGS) return refuse(ROOM);
        int speedBack = tows ? Math.max(1, b.speeds[c.sea] / 2) : b.speeds[c.sea];
        int home = reached + help + cutUp(wayOf(b, c) * HOUR_MINUTES, speedBack);
        launches.add(new Launch(boat, call, launchMinute(b), reached, home));
        b.awayTill = home;
        return home;
    }

    public int log(int i, int what) {
        if (what < 0 || what > 4) return refuse(OTHER);
        if (i < 0 || i >= launches.size()) return NONE;
        return launches.get(i).told(what);
    }

    private int wayOf(Boat b, Call c) {
        return Math.abs(miles[b.station] - c.miles) + c.out;
    }

    private boolean canGo(Boat b, Call c) {
        int speed = b.speeds[c.sea];
        return speed > 0 && cutUp(2 * wayOf(b, c), speed) <= b.fuel;
    }

    /** NONE if the slip never opens. */
    private int launchMinute(Boat b) {
        int ready = Math.max(minute, b.awayTill) + gather;
        int hour = ready / HOUR_MINUTES;
        if (isOpen(b.station, hour)) return ready;
        for (int ahead = 1; ahead <= HOURS_AHEAD; ahead++) {
            if (isOpen(b.station, hour + ahead)) return (hour + ahead) * HOUR_MINUTES;
        }
        return NONE;
    }

    /** NONE if the boat can't go, or its slip never opens. */
    private int reachedMinute(Boat b, Call c) {
        if (!canGo(b, c)) return NONE;
        int launch = launchMinute(b);
        if (launch == NONE) return NONE;
        return launch + cutUp(wayOf(b, c) * HOUR_MINUTES, b.speeds[c.sea]);
    }

    private void pairBoats(Call one, Call other) {
        pair.clear();
        for (int i = 0; i < boats.size(); i++) {
            int toOne = reachedMinute(boats.get(i), one);
            if (toOne == NONE) continue;
            for (int j = 0; j < boats.size(); j++) {
                if (j == i) continue;
                int toOther = reachedMinute(boats.get(j), other);
                if (toOther != NONE) pair.offer(i, toOne, j, toOther);
            }
        }
    }

    // ---- cover

    public int covered(int station) {
        if (!isStation(station)) return refuse(NOBODY);
        return boatsReadyAt(station) > 0 ? 1 : 0;
    }

    public int flanks(int what) {
        if (what != 0 && what != 1) return refuse(OTHER);
        planFlanks();
        return what == 0 ? flankPlan.bestHelped : flankPlan.bestMiles;
    }

    public int flank(int station) {
        if (!isStation(station)) return refuse(NOBODY);
        planFlanks();
        return flankPlan.bestFrom[station];
    }

    private void planFlanks() {
        for (int s = 0; s < STATIONS; s++) {
            flankPlan.tellReady(s, miles[s], boatsReadyAt(s));
        }
        flankPlan.find();
    }

    private int boatsReadyAt(int station) {
        int ready = 0;
        for (int i = 0; i < boats.size(); i++) {
            Boat b = boats.get(i);
            if (b.station == station && !b.isAway(minute)) ready++;
        }
        return ready;
    }

    // ---- search

    public int box(int box, int worth) {
        if (!isBox(box)) return refuse(NOBODY);
        int wrong = outside(worth, 0, MOST_WORTH);
        if (wrong != 0) return refuse(wrong);
        int was = search.worth[box];
        search.worth[box] = worth;
        return was;
    }

    public int look(int box, int eyes) {
        if (!isBox(box)) return refuse(NOBODY);
        int wrong = outside(eyes, 0, MOST_EYES);
        if (wrong != 0) return refuse(wrong);
        search.worth[box] = Search.leftOf(search.worth[box], eyes);
        return search.worth[box];
    }

    public int looks(int n, int eyes) {
        int wrong = wrongLooks(n, eyes);
        if (wrong != 0) return refuse(wrong);
        search.plan(n, eyes);
        return search.found;
    }

    public int lookAt(int n, int eyes, int i) {
        int wrong = wrongLooks(n, eyes);
        if (wrong != 0) return refuse(wrong);
        if (i < 0 || i >= n) return NONE;
        search.plan(n, eyes);
        return search.looked[i];
    }

    private static int wrongLooks(int n, int eyes) {
        if (n < 1 || eyes < 0) return BELOW;
        return n > MOST_LOOKS || eyes > MOST_EYES ? ROOM : 0;
    }

    // ---- rest, training and what is told

    public int rest(int person, int till) {
        Person p = personAt(person);
        if (p == null) return refuse(NOBODY);
        int wrong = outside(till, minute, MOST_MINUTES);
        if (wrong != 0) return refuse(wrong);
        int was = p.restTill;
        p.restTill = till;
        return was;
    }

    public int turn(int station, int i) {
        if (!isStation(station)) return refuse(NOBODY);
        for (int n = 0; n < people.size(); n++) {
            if (people.get(n).station == station && placeInTurn(n) == i) return n;
        }
        return NONE;
    }

    private int placeInTurn(int person) {
        Person p = people.get(person);
        int ahead = 0;
        for (int n = 0; n < people.size(); n++) {
            Person q = people.get(n);
            if (q.station != p.station) continue;
            if (q.papers < p.papers || (q.papers == p.papers && n < person)) ahead++;
        }
        return ahead;
    }

    public int personOf(int person, int what) {
        Person p = personAt(person);
        if (p == null) return refuse(NOBODY);
        if (what < 0 || what >= 4 + 2 * BANDS) return refuse(OTHER);
        if (what >= 4 + BANDS) return p.came[what - 4 - BANDS];
        if (what >= 4) return p.paged[what - 4];
        switch (what) {
            case 0: return p.station;
            case 1: return p.skills;
            case 2: return p.papers;
            default: return p.restTill;
        }
    }

    public int count(int what) {
        if (what >= 11 && what <= 10 + REASONS) return refused[what - 10];
        switch (what) {
            case 0: return minute;
            case 1: return bandNow();
            case 2: return people.size();
            case 3: return boats.size();
            case 4: return boatsAway();
            case 5: return calls.size();
            case 6: return launches.size();
            case 7: return stationsCovered();
            default: return NONE;
        }
    }

    private int boatsAway() {
        int away = 0;
        for (int i = 0; i < boats.size(); i++) {
            if (boats.get(i).isAway(minute)) away++;
        }
        return away;
    }

    private int stationsCovered() {
        int stations = 0;
        for (int s = 0; s < STATIONS; s++) {
            if (boatsReadyAt(s) > 0) stations++;
        }
        return stations;
    }

    // ---- tests of arguments

    private int refuse(int why) {
        if (why < 0 && why >= -REASONS) refused[-why]++;
        return why;
    }

    /** 0 if v lies between least and greatest, else the refusal that fits. */
    private static int outside(int v, int least, int greatest) {
        if (v < least) return BELOW;
        return v > greatest ? ROOM : 0;
    }

    private static boolean isStation(int s) {
        return s >= 0 && s < STATIONS;
    }

    private static boolean isBand(int band) {
        return band >= 0 && band < BANDS;
    }

    private static boolean isSea(int sea) {
        return sea >= 0 && sea < SEAS;
    }

    private static boolean isBox(int box) {
        return box >= 0 && box < BOXES;
    }

    private Person personAt(int n) {
        return n >= 0 && n < people.size() ? people.get(n) : null;
    }

    private Boat boatAt(int n) {
        return n >= 0 && n < boats.size() ? boats.get(n) : null;
    }

    private Call callAt(int n) {
        return n >= 0 && n < calls.size() ? calls.get(n) : null;
    }

    private static int cutUp(int amount, int by) {
        return by < 1 ? 0 : (amount + by - 1) / by;
    }

    private static final class Person {
        final int station;
        final int skills;
        final int[] paged = new int[BANDS];
        final int[] came = new int[BANDS];
        int papers;
        int restTill = 0;

        Person(int station, int skills, int papers) {
            this.station = station;
            this.skills = skills;
            this.papers = papers;
        }

        int partIn(int band, int now) {
            boolean holds = now / HOUR_MINUTES / DAY_HOURS <= papers;
            boolean rests = now < restTill;
            return holds && !rests ? FULL_PART * (came[band] + 1) / (paged[band] + 2) : 0;
        }
    }

    private static final class Boat {
        final int fuel;
        final int[] speeds = new int[SEAS];
        int station;
        int awayTill = 0;

        Boat(int station, int fuel) {
            this.station = station;
            this.fuel = fuel;
        }

        boolean isAway(int now) {
            return now < awayTill;
        }
    }

    private static final class Call {
        final int miles;
        final int out;
        final int sea;

        Call(int miles, int out, int sea) {
            this.miles = miles;
            this.out = out;
            this.sea = sea;
        }
    }

    private static final class Launch {
        final int boat;
        final int call;
        final int launched;
        final int reached;
        final int home;

        Launch(int boat, int call, int launched, int reached, int home) {
            this.boat = boat;
            this.call = call;
            this.launched = launched;
            this.reached = reached;
            this.home = home;
        }

        int told(int what) {
            switch (what) {
                case 0: return boat;
                case 1: return call;
                case 2: return launched;
                case 3: return reached;
                default: return home;
            }
        }
    }

    /** The told row of high water, which comes again every 25 hours. */
    private static final class Tides {
        static final int HOURS = 25;
        static final int MISSING = -1;

        private final int[] high = new int[HOURS];
        private int leastTold = 0;

        Tides() {
            Arrays.fill(high, MISSING);
        }

        void tell(int hour, int v) {
            high[hour] = v;
            int least = MISSING;
            for (int h = 0; h < HOURS; h++) {
                if (high[h] != MISSING && (least == MISSING || high[h] < least)) least = high[h];
            }
            leastTold = least == MISSING ? 0 : least;
        }

        int feet(int hour) {
            int told = high[Math.floorMod(hour, HOURS)];
            return told == MISSING ? leastTold : told;
        }
    }

    /**
     * The parts of 2 to the 20 for each way in which people may have come. A row's
     * number holds five digits: not young, young, helm alone, engine alone, both.
     */
    private static final class CrewRows {
        private static final int MOST_COME = 6;
        private static final int MOST_KIND = 2;
        private static final int BOTH_STEP = 1;
        private static final int ENGINE_STEP = 3;
        private static final int HELM_STEP = 9;
        private static final int YOUNG_STEP = 27;
        private static final int GROWN_STEP = 189;
        private static final int ROWS = 1323;

        private final int[] parts = new int[ROWS];
        private int top = 0;

        void clear() {
            Arrays.fill(parts, 0);
            parts[0] = FULL_CHANCE;
            top = 0;
        }

        /** Goes downwards, since one who comes never leads to a lower row: so no part moves twice. */
        void mayCome(int skills, int part) {
            for (int row = top; row >= 0; row--) {
                int all = parts[row];
                if (all == 0) continue;
                int comes = all * part / FULL_PART;
                parts[row] = all - comes;
                parts[rowWith(row, skills)] += comes;
            }
            top = rowWith(top, skills);
        }

        int standing(int size) {
            int sum = 0;
            for (int row = 0; row <= top; row++) {
                if (parts[row] != 0 && stands(row, size)) sum += parts[row];
            }
            return sum;
        }

        private static int rowWith(int row, int skills) {
            if ((skills & YOUNG) != 0) return stepUp(row, YOUNG_STEP, MOST_COME);
            int next = stepUp(row, GROWN_STEP, MOST_COME);
            switch (skills & (HELM | ENGINE)) {
                case HELM: return stepUp(next, HELM_STEP, MOST_KIND);
                case ENGINE: return stepUp(next, ENGINE_STEP, MOST_KIND);
                case HELM | ENGINE: return stepUp(next, BOTH_STEP, MOST_KIND);
                default: return next;
            }
        }

        private static int stepUp(int row, int step, int most) {
            return row / step % (most + 1) < most ? row + step : row;
        }

        private static boolean stands(int row, int size) {
            int grown = row / GROWN_STEP;
            int young = row / YOUNG_STEP % (MOST_COME + 1);
            int helms = row / HELM_STEP % (MOST_KIND + 1);
            int engines = row / ENGINE_STEP % (MOST_KIND + 1);
            int both = row % (MOST_KIND + 1);
            int counting = grown >= 2 ? grown + young : grown;
            boolean led = helms + both >= 1 && engines + both >= 1 && helms + engines + both >= 2;
            return led && counting >= size;
        }
    }

    /** The best two boats for two calls, of those that were offered. */
    private static final class Pair {
        int later = NONE;
        int oneBoat = NONE;
        int otherBoat = NONE;
        private int together = 0;

        void clear() {
            later = NONE;
            oneBoat = NONE;
            otherBoat = NONE;
            together = 0;
        }

        /** Boats are offered in order, so of equal pairs the first one stays. */
        void offer(int one, int toOne, int other, int toOther) {
            int laterNow = Math.max(toOne, toOther);
            int togetherNow = toOne + toOther;
            boolean worse = laterNow > later || (laterNow == later && togetherNow >= together);
            if (later != NONE && worse) return;
            later = laterNow;
            together = togetherNow;
            oneBoat = one;
            otherBoat = other;
        }
    }

    /** Which stations without cover are helped, and from where. */
    private static final class FlankPlan {
        private static final int FURTHEST = 80;

        final int[] bestFrom = new int[STATIONS];
        int bestHelped = 0;
        int bestMiles = 0;
        private final int[] miles = new int[STATIONS];
        private final int[] spare = new int[STATIONS];
        private final boolean[] bare = new boolean[STATIONS];
        private final int[] from = new int[STATIONS];

        void tellReady(int station, int mile, int ready) {
            miles[station] = mile;
            spare[station] = Math.max(0, ready - 1);
            bare[station] = ready == 0;
        }

        void find() {
            bestHelped = -1;
            bestMiles = 0;
            tryFrom(this, 0, 0, 0);
        }

        /** Tries the least helper first and none last, so of equal plans the first one stays. */
        private static void tryFrom(FlankPlan plan, int station, int helped, int together) {
            if (station >= STATIONS) {
                plan.keepIfBetter(helped, together);
                return;
            }
            for (int s = 0; plan.bare[station] && s < STATIONS; s++) {
                int way = Math.abs(plan.miles[s] - plan.miles[station]);
                if (plan.spare[s] < 1 || way > FURTHEST) continue;
                plan.spare[s]--;
                plan.from[station] = s;
                tryFrom(plan, station + 1, helped + 1, together + way);
                plan.spare[s]++;
            }
            plan.from[station] = NONE;
            tryFrom(plan, station + 1, helped, together);
        }

        private void keepIfBetter(int helped, int together) {
            if (helped < bestHelped || (helped == bestHelped && together >= bestMiles)) return;
            bestHelped = helped;
            bestMiles = together;
            System.arraycopy(from, 0, bestFrom, 0, STATIONS);
        }
    }

    /** The worth of the boxes, and the best looks at them. */
    private static final class Search {
        private static final int TENTHS = 10;

        final int[] worth = new int[BOXES];
        final int[] looked = new int[MOST_LOOKS];
        int found = 0;
        private final int[] left = new int[BOXES];

        static int leftOf(int worth, int eyes) {
            return worth * (TENTHS - eyes) / TENTHS;
        }

        /** Looks at a copy: planning leaves the worth of the boxes as it is. */
        void plan(int n, int eyes) {
            System.arraycopy(worth, 0, left, 0, BOXES);
            found = 0;
            for (int i = 0; i < n && i < MOST_LOOKS; i++) {
                int best = richest(eyes);
                looked[i] = best;
                found += foundOf(left[best], eyes);
                left[best] = leftOf(left[best], eyes);
            }
        }

        private int richest(int eyes) {
            int best = 0;
            for (int b = 1; b < BOXES; b++) {
                if (foundOf(left[b], eyes) > foundOf(left[best], eyes)) best = b;
            }
            return best;
        }

        private static int foundOf(int worth, int eyes) {
            return worth * eyes / TENTHS;
        }
    }
}
