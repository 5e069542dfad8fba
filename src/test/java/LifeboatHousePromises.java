/** Each promise of the document by number: ordinary inputs, edges, and each refusal it lists. */
public final class LifeboatHousePromises {
    private static final int LOW = Integer.MIN_VALUE;
    private static final int TOP = Integer.MAX_VALUE;
    private static int wrong = 0;
    private static int promise = 0;

    private static void due(String what, int got, int want) {
        if (got != want) {
            wrong++;
            System.out.println("promise " + promise + ": " + what + " answered " + got + ", due is " + want);
        }
    }

    private static void newObject() {
        promise = 1;
        LifeboatHouse x = new LifeboatHouse();
        for (int what = 0; what <= 7; what++) due("count(" + what + ")", x.count(what), 0);
        for (int what = 11; what <= 16; what++) due("count(" + what + ")", x.count(what), 0);
        for (int s = 0; s < 6; s++) due("miles of " + s, x.station(s, 0, 0), 40 * s);
        for (int s = 0; s < 6; s++) due("needs of " + s, x.station(s, 1, 0), 0);
        for (int b = 0; b < 12; b++) due("worth of " + b, x.box(b, 0), 0);
        due("size", x.set(0, 4), 4);
        due("gather", x.set(1, 9), 9);
        LifeboatHouse y = new LifeboatHouse();
        x.person(0, 1, 1);
        x.minutes(5);
        due("another object's people", y.count(2), 0);
        due("another object's minute", y.count(0), 0);
    }

    private static void station() {
        promise = 2;
        LifeboatHouse x = new LifeboatHouse();
        due("miles", x.station(5, 0, 300), 200);
        due("miles again", x.station(5, 0, 0), 300);
        due("needs", x.station(5, 1, 12), 0);
        due("needs again", x.station(5, 1, 0), 12);
        due("no station", x.station(6, 2, -1), -1);
        due("no station below", x.station(-1, 0, 0), -1);
        due("other", x.station(0, 2, -1), -2);
        due("other below", x.station(0, -1, 0), -2);
        due("below", x.station(0, 0, -1), -4);
        due("below needs", x.station(0, 1, -1), -4);
        due("above", x.station(0, 0, 301), -6);
        due("above needs", x.station(0, 1, 13), -6);
        due("lowest", x.station(0, 0, LOW), -4);
        due("highest", x.station(0, 0, TOP), -6);
        due("nothing changed", x.station(0, 0, 0), 0);
    }

    private static void person() {
        promise = 3;
        LifeboatHouse x = new LifeboatHouse();
        due("no station", x.person(6, -1, 0), -1);
        due("no station below", x.person(-1, 1, 0), -1);
        due("skills below", x.person(0, -1, 201), -4);
        due("papers below, skills above", x.person(0, 16, -1), -4);
        due("skills above", x.person(0, 16, 0), -6);
        due("papers above", x.person(0, 15, 201), -6);
        for (int i = 0; i < 40; i++) due("number " + i, x.person(i % 6, i % 16, 5 * i), i);
        due("no room", x.person(0, 1, 1), -6);
        due("no room, but below first", x.person(0, -1, 1), -4);
        due("people", x.count(2), 40);
        due("station", x.personOf(39, 0), 3);
        due("skills", x.personOf(39, 1), 7);
        due("papers", x.personOf(39, 2), 195);
    }

    private static void papers() {
        promise = 4;
        LifeboatHouse x = new LifeboatHouse();
        due("nobody", x.papers(0, -1), -1);
        x.person(0, 1, 3);
        due("was", x.papers(0, 200), 3);
        due("was then", x.papers(0, 0), 200);
        due("below", x.papers(0, -1), -4);
        due("above", x.papers(0, 201), -6);
        due("nobody below", x.papers(-1, 0), -1);
        due("hold on their last day", x.partOf(0, 0), 512);
        x.minutes(1439);
        due("hold till its last minute", x.partOf(0, 0), 512);
        x.minutes(1);
        due("don't hold on the next day", x.partOf(0, 0), 0);
        due("a day that is gone", x.papers(0, 1), 0);
        due("hold again", x.partOf(0, 0), 512);
    }

    private static void page() {
        promise = 5;
        LifeboatHouse x = new LifeboatHouse();
        due("nobody", x.page(0, true), -1);
        x.person(0, 1, 200);
        due("came", x.page(0, true), 1);
        due("did not", x.page(0, false), 2);
        due("paged", x.personOf(0, 4), 2);
        due("came", x.personOf(0, 12), 1);
        x.minutes(360);
        due("another band", x.page(0, true), 1);
        due("paged in it", x.personOf(0, 5), 1);
        for (int i = 2; i <= 200; i++) due("page " + i, x.page(0, i % 2 == 0), i);
        due("above 200", x.page(0, true), -6);
        due("paged stays", x.personOf(0, 5), 200);
        due("came stays", x.personOf(0, 13), 101);
        due("nobody below", x.page(-1, true), -1);
        x.rest(0, 1000);
        x.minutes(360);
        due("one who rests may be paged", x.page(0, true), 1);
    }

    private static void partOf() {
        promise = 6;
        LifeboatHouse x = new LifeboatHouse();
        due("nobody", x.partOf(0, 0), -1);
        x.person(0, 1, 0);
        due("at first", x.partOf(0, 7), 512);
        due("no band", x.partOf(0, 8), -1);
        due("no band below", x.partOf(0, -1), -1);
        x.page(0, false);
        due("1024 by 3", x.partOf(0, 0), 341);
        for (int i = 0; i < 199; i++) x.page(0, true);
        due("204800 by 202", x.partOf(0, 0), 1013);
        due("other bands stay", x.partOf(0, 1), 512);
        x.rest(0, 10);
        due("rests", x.partOf(0, 1), 0);
        x.minutes(9);
        due("rests ahead of it", x.partOf(0, 1), 0);
        x.minutes(1);
        due("rests no more", x.partOf(0, 1), 512);
        x.minutes(1430);
        due("papers lapsed", x.partOf(0, 1), 0);
    }

    private static void set() {
        promise = 7;
        LifeboatHouse x = new LifeboatHouse();
        due("size", x.set(0, 2), 4);
        due("size again", x.set(0, 6), 2);
        due("gather", x.set(1, 5), 9);
        due("gather again", x.set(1, 30), 5);
        due("other", x.set(2, -1), -2);
        due("other below", x.set(-1, 4), -2);
        due("size below", x.set(0, 1), -4);
        due("gather below", x.set(1, 4), -4);
        due("size above", x.set(0, 7), -6);
        due("gather above", x.set(1, 31), -6);
        due("size stays", x.set(0, 4), 6);
        due("gather stays", x.set(1, 9), 30);
    }

    private static LifeboatHouse withCrew(int size, int... skills) {
        LifeboatHouse x = new LifeboatHouse();
        x.set(0, size);
        for (int s : skills) x.person(1, s, 200);
        return x;
    }

    private static void chance() {
        promise = 8;
        int whole = 1 << 20;
        due("nobody at all", withCrew(2).chance(1, 0), 0);
        due("helm and engine", withCrew(2, 1, 2).chance(1, 0), whole / 4);
        due("at another station", withCrew(2, 1, 2).chance(0, 0), 0);
        due("one who has both is one", withCrew(2, 3, 4).chance(1, 0), 0);
        due("both and engine", withCrew(2, 3, 2).chance(1, 0), whole / 4);
        due("both and helm", withCrew(2, 3, 1).chance(1, 0), whole / 4);
        due("two who have both", withCrew(2, 3, 3).chance(1, 0), whole / 4);
        due("two helms", withCrew(2, 1, 1).chance(1, 0), 0);
        due("two engines", withCrew(2, 2, 2).chance(1, 0), 0);
        due("helm who is crew too", withCrew(2, 5, 6).chance(1, 0), whole / 4);
        due("a young helm leads not", withCrew(2, 9, 2, 4).chance(1, 0), 0);
        due("a young one counts", withCrew(3, 1, 2, 12).chance(1, 0), whole / 8);
        due("a young one with a helm counts as crew", withCrew(3, 1, 2, 9).chance(1, 0), whole / 8);
        due("none of 1, 2, 4", withCrew(3, 1, 2, 0).chance(1, 0), 0);
        due("young alone is none", withCrew(3, 1, 2, 8).chance(1, 0), 0);
        due("size 6", withCrew(6, 1, 2, 4, 4, 12, 12).chance(1, 0), whole / 64);
        due("size 6, four young", withCrew(6, 1, 2, 12, 12, 12, 12).chance(1, 0), whole / 64);
        due("two of three", withCrew(2, 1, 2, 3).chance(1, 0), whole / 2);
        LifeboatHouse x = withCrew(2, 1, 2, 4);
        x.page(0, false);
        x.page(2, false);
        due("parts by pages", x.chance(1, 0), 174592);
        x.rest(0, 50);
        due("the helm rests", x.chance(1, 0), 0);
        LifeboatHouse five = withCrew(5, 1, 2, 4, 4, 4);
        for (int i = 0; i < 5; i++) five.page(i, false);
        due("cut at each one: 4294 if cut once", five.chance(1, 0), 4293);
        due("no station", x.chance(6, 0), -1);
        due("no station below", x.chance(-1, 0), -1);
        due("no band", x.chance(1, 8), -1);
        due("no band below", x.chance(1, -1), -1);
        int[] many = new int[40];
        for (int i = 0; i < 40; i++) many[i] = 1 + i % 15;
        LifeboatHouse full = withCrew(6, many);
        int got = full.chance(1, 0);
        if (got < whole - whole / 100 || got > whole) due("forty people", got, whole);
    }

    private static void weak() {
        promise = 9;
        LifeboatHouse x = withCrew(2, 1, 2);
        due("just at the share", x.weak(1, 25), 0);
        due("one more", x.weak(1, 26), 8);
        x.page(0, false);
        due("one band is weak", x.weak(1, 25), 1);
        due("0 is never weak", x.weak(0, 0), 0);
        due("an empty station", x.weak(0, 1), 8);
        due("all", x.weak(1, 100), 8);
        for (int i = 0; i < 6; i++) x.page(i % 2, true);
        due("682 times 819", x.chance(1, 0), 558558);
        LifeboatHouse y = withCrew(2, 1, 2);
        for (int i = 0; i < 6; i++) y.page(i % 2, true);
        due("819 times 819", y.chance(1, 0), 670761);
        due("671088 is more", y.weak(1, 64), 8);
        due("660602 is less", y.weak(1, 63), 7);
        due("no station", x.weak(6, -1), -1);
        due("below", x.weak(1, -1), -4);
        due("above", x.weak(1, 101), -6);
    }

    private static void tide() {
        promise = 10;
        LifeboatHouse x = new LifeboatHouse();
        x.station(0, 1, 3);
        due("none told is 0", x.slip(0, 0), 0);
        due("told", x.tide(24, 12), 1);
        due("missing is the least", x.slip(0, 0), 1);
        due("a lower one", x.tide(0, 0), 1);
        due("missing is less", x.slip(0, 1), 0);
        due("told stays", x.slip(0, 24), 1);
        due("missing again", x.tide(0, -1), 1);
        due("missing is as before", x.slip(0, 0), 1);
        x.tide(24, -1);
        due("none is told any more", x.slip(0, 24), 0);
        x.station(0, 1, 1);
        due("which counts as 0", x.slip(0, 24), 0);
        due("no hour", x.tide(25, -2), -1);
        due("no hour below", x.tide(-1, 0), -1);
        due("below", x.tide(0, -2), -4);
        due("above", x.tide(0, 13), -6);
    }

    private static void slip() {
        promise = 11;
        LifeboatHouse x = new LifeboatHouse();
        due("needs 0", x.slip(5, 4000), 1);
        x.station(5, 1, 6);
        x.tide(0, 5);
        x.tide(1, 6);
        x.tide(2, 7);
        due("less", x.slip(5, 0), 0);
        due("as many", x.slip(5, 1), 1);
        due("more", x.slip(5, 2), 1);
        due("comes again", x.slip(5, 26), 1);
        due("hour 4000 is 0", x.slip(5, 4000), 0);
        due("no station", x.slip(6, -1), -1);
        due("below", x.slip(5, -1), -4);
        due("above", x.slip(5, 4001), -6);
    }

    private static void minutes() {
        promise = 12;
        LifeboatHouse x = new LifeboatHouse();
        due("one", x.minutes(1), 1);
        due("more", x.minutes(359), 360);
        due("band", x.count(1), 1);
        due("below", x.minutes(0), -4);
        due("far below", x.minutes(LOW), -4);
        due("above in all", x.minutes(199641), -6);
        due("far above", x.minutes(TOP), -6);
        due("the last", x.minutes(199640), 200000);
        due("no more", x.minutes(1), -6);
        due("stays", x.count(0), 200000);
    }

    private static void boat() {
        promise = 13;
        LifeboatHouse x = new LifeboatHouse();
        due("no station", x.boat(6, 0), -1);
        due("no station below", x.boat(-1, 1), -1);
        due("below", x.boat(0, 0), -4);
        due("above", x.boat(0, 21), -6);
        for (int i = 0; i < 8; i++) due("number " + i, x.boat(i % 6, i == 0 ? 1 : 20), i);
        due("no room", x.boat(0, 1), -6);
        due("boats", x.count(3), 8);
        for (int sea = 0; sea < 5; sea++) due("speed", x.speed(7, sea, 0), 0);
    }

    private static void speed() {
        promise = 14;
        LifeboatHouse x = new LifeboatHouse();
        due("no boat", x.speed(0, 0, -1), -1);
        x.boat(0, 20);
        due("was", x.speed(0, 4, 30), 0);
        due("was then", x.speed(0, 4, 0), 30);
        due("other seas stay", x.speed(0, 3, 0), 0);
        due("no sea", x.speed(0, 5, 0), -1);
        due("no sea below", x.speed(0, -1, 0), -1);
        due("no boat below", x.speed(-1, 0, 0), -1);
        due("below", x.speed(0, 0, -1), -4);
        due("above", x.speed(0, 0, 31), -6);
    }

    private static void move() {
        promise = 15;
        LifeboatHouse x = new LifeboatHouse();
        due("no boat", x.move(0, 0), -1);
        x.boat(0, 20);
        due("was", x.move(0, 5), 0);
        due("was then", x.move(0, 0), 5);
        due("no station", x.move(0, 6), -1);
        due("no station below", x.move(0, -1), -1);
        x.speed(0, 0, 30);
        x.call(0, 0, 0);
        due("home", x.send(0, 0, 0, false), 9);
        due("away", x.move(0, 1), -3);
        due("away, no station", x.move(0, 6), -1);
        x.minutes(8);
        due("still away", x.move(0, 1), -3);
        x.minutes(1);
        due("home", x.move(0, 1), 0);
        due("covers there", x.covered(1), 1);
    }

    private static void call() {
        promise = 16;
        LifeboatHouse x = new LifeboatHouse();
        due("no sea", x.call(-1, 0, 5), -1);
        due("no sea below", x.call(0, 0, -1), -1);
        due("miles below", x.call(-1, 61, 0), -4);
        due("out below, miles above", x.call(301, -1, 0), -4);
        due("miles above", x.call(301, 0, 0), -6);
        due("out above", x.call(0, 61, 0), -6);
        for (int i = 0; i < 20; i++) due("number " + i, x.call(15 * i, 3 * i, i % 5), i);
        due("no room", x.call(0, 0, 0), -6);
        due("calls", x.count(5), 20);
    }

    private static void reach() {
        promise = 17;
        LifeboatHouse x = new LifeboatHouse();
        x.boat(1, 4);
        x.call(60, 15, 2);
        x.call(60, 21, 2);
        due("no speed", x.reach(0, 0, 2), 0);
        due("no speed: launch", x.reach(0, 0, 0), -9);
        due("no speed: reached", x.reach(0, 0, 1), -9);
        x.speed(0, 2, 18);
        due("can: 70 by 18 is 4 hours", x.reach(0, 0, 2), 1);
        due("can not: 82 by 18 is 5 hours", x.reach(0, 1, 2), 0);
        due("launch", x.reach(0, 0, 0), 9);
        due("reached: 2100 by 18 cut up", x.reach(0, 0, 1), 126);
        x.call(20, 15, 2);
        due("miles on the other side", x.reach(0, 2, 1), 126);
        x.minutes(50);
        due("launch from now", x.reach(0, 0, 0), 59);
        x.station(1, 1, 4);
        due("never", x.reach(0, 0, 0), -9);
        due("never reached", x.reach(0, 0, 1), -9);
        due("never, but can", x.reach(0, 0, 2), 1);
        x.tide(0, 3);
        x.tide(2, 4);
        due("at the first minute of an hour", x.reach(0, 0, 0), 120);
        x.tide(1, 12);
        due("in the very next hour", x.reach(0, 0, 0), 60);
        x.tide(1, -1);
        x.minutes(75);
        due("within the hour", x.reach(0, 0, 0), 134);
        x.minutes(46);
        due("a tide later", x.reach(0, 0, 0), 27 * 60);
        due("no boat", x.reach(1, 0, 3), -1);
        due("no boat below", x.reach(-1, 0, 0), -1);
        due("no call", x.reach(0, 3, 0), -1);
        due("no call below", x.reach(0, -1, 0), -1);
        due("other", x.reach(0, 0, 3), -2);
        due("other below", x.reach(0, 0, -1), -2);
    }

    private static void reachWhenAway() {
        promise = 17;
        LifeboatHouse x = new LifeboatHouse();
        x.boat(0, 20);
        x.speed(0, 0, 30);
        x.call(0, 0, 0);
        due("sent", x.send(0, 0, 100, false), 109);
        x.set(1, 5);
        due("gathers from when it is home", x.reach(0, 0, 0), 114);
        x.minutes(109);
        due("from now", x.reach(0, 0, 0), 114);
        x.minutes(1);
        due("from now, later", x.reach(0, 0, 0), 115);
    }

    private static void first() {
        promise = 18;
        LifeboatHouse x = new LifeboatHouse();
        due("no call", x.first(0), -1);
        x.call(20, 0, 0);
        due("no boats", x.first(0), -9);
        x.boat(0, 20);
        x.boat(1, 20);
        x.boat(1, 20);
        due("none can", x.first(0), -9);
        x.speed(0, 0, 10);
        x.speed(1, 0, 10);
        x.speed(2, 0, 10);
        due("of several the least", x.first(0), 0);
        x.speed(2, 0, 11);
        due("the faster one", x.first(0), 2);
        x.station(1, 1, 1);
        due("those there never launch", x.first(0), 0);
        due("sent", x.send(0, 0, 600, false), 849);
        due("away, yet the only one", x.first(0), 0);
        x.station(1, 1, 0);
        due("not away", x.first(0), 2);
        due("no call below", x.first(-1), -1);
    }

    private static void two() {
        promise = 19;
        LifeboatHouse x = new LifeboatHouse();
        due("no calls", x.two(0, 1, 3), -1);
        x.call(0, 10, 0);
        x.call(40, 10, 0);
        due("no boats", x.two(0, 1, 0), -9);
        due("no boats", x.two(0, 1, 1), -9);
        x.boat(0, 20);
        x.speed(0, 0, 10);
        due("one boat is not two", x.two(0, 1, 2), -9);
        x.boat(0, 20);
        x.speed(1, 0, 20);
        due("the later one first", x.two(0, 1, 0), 159);
        due("slow to the near one", x.two(0, 1, 1), 0);
        due("fast to the far one", x.two(0, 1, 2), 1);
        due("the other way round", x.two(1, 0, 1), 1);
        due("the other way round", x.two(1, 0, 2), 0);
        x.boat(0, 20);
        x.speed(2, 0, 20);
        due("least together: still 159", x.two(0, 1, 0), 159);
        due("least together: the faster to the near one", x.two(0, 1, 1), 1);
        due("then the other", x.two(0, 1, 2), 2);
        due("of one call twice", x.two(1, 1, 0), -1);
        due("no first", x.two(2, 0, 0), -1);
        due("no second", x.two(0, 2, 0), -1);
        due("below", x.two(-1, 0, 0), -1);
        due("other", x.two(0, 1, 3), -2);
        due("other below", x.two(0, 1, -1), -2);
    }

    /** Boat 0 takes 120 minutes to either call, boat 1 takes 70 to the one and 10 to the other. */
    private static void twoTogether() {
        promise = 19;
        LifeboatHouse x = new LifeboatHouse();
        x.station(0, 0, 20);
        x.station(1, 0, 35);
        x.boat(0, 20);
        x.boat(1, 20);
        x.speed(0, 0, 10);
        x.speed(1, 0, 30);
        x.call(0, 0, 0);
        x.call(40, 0, 0);
        due("later", x.two(0, 1, 0), 129);
        due("together: the first", x.two(0, 1, 1), 0);
        due("together: the second", x.two(0, 1, 2), 1);
        due("turned: later", x.two(1, 0, 0), 129);
        due("turned: the first", x.two(1, 0, 1), 1);
        due("turned: the second", x.two(1, 0, 2), 0);
    }

    private static void send() {
        promise = 20;
        LifeboatHouse x = new LifeboatHouse();
        x.boat(0, 20);
        x.call(0, 10, 1);
        due("no boat", x.send(1, 0, -1, false), -1);
        due("no call", x.send(0, 1, -1, false), -1);
        due("can not, ahead of help", x.send(0, 0, -1, false), -3);
        x.speed(0, 1, 7);
        x.station(0, 1, 1);
        due("never", x.send(0, 0, 0, false), -3);
        x.station(0, 1, 0);
        due("below", x.send(0, 0, -1, false), -4);
        due("above", x.send(0, 0, 601, false), -6);
        due("not away yet", x.count(4), 0);
        due("nor logged", x.count(6), 0);
        due("600 by 7 is 86, by 3 is 200", x.send(0, 0, 5, true), 9 + 86 + 5 + 200);
        due("away now", x.count(4), 1);
        due("away", x.send(0, 0, 0, false), -3);
        due("away, ahead of help", x.send(0, 0, 601, false), -3);
        x.minutes(300);
        due("back without a tow", x.send(0, 0, 600, false), 309 + 86 + 600 + 86);
        x.minutes(781);
        x.speed(0, 1, 1);
        due("half of 1 is 1", x.send(0, 0, 0, true), 1090 + 600 + 600);
        LifeboatHouse y = new LifeboatHouse();
        y.boat(0, 1);
        y.speed(0, 0, 30);
        y.call(0, 0, 0);
        for (int i = 0; i < 40; i++) {
            due("log " + i, y.send(0, 0, 0, false), 9 * (i + 1));
            y.minutes(9);
        }
        due("no room", y.send(0, 0, 0, false), -6);
        due("no room, but below first", y.send(0, 0, -1, false), -4);
        due("logs", y.count(6), 40);
        due("it did not go", y.count(4), 0);
    }

    private static void log() {
        promise = 21;
        LifeboatHouse x = new LifeboatHouse();
        x.boat(0, 20);
        x.boat(0, 20);
        x.speed(1, 0, 30);
        x.call(300, 60, 0);
        x.call(10, 0, 0);
        x.send(1, 1, 7, false);
        int[] row = {1, 1, 9, 29, 56};
        for (int what = 0; what < 5; what++) due("log(0, " + what + ")", x.log(0, what), row[what]);
        due("none such", x.log(1, 0), -9);
        due("none such below", x.log(-1, 0), -9);
        due("other", x.log(1, 5), -2);
        due("other below", x.log(0, -1), -2);
    }

    private static void covered() {
        promise = 22;
        LifeboatHouse x = new LifeboatHouse();
        due("no boat", x.covered(0), 0);
        x.boat(0, 20);
        due("a boat without speed", x.covered(0), 1);
        x.move(0, 3);
        due("moved away", x.covered(0), 0);
        due("moved there", x.covered(3), 1);
        x.speed(0, 0, 30);
        x.call(120, 0, 0);
        x.send(0, 0, 0, false);
        due("away", x.covered(3), 0);
        x.minutes(9);
        due("home", x.covered(3), 1);
        due("no station", x.covered(6), -1);
        due("no station below", x.covered(-1), -1);
    }

    private static void flanks() {
        promise = 23;
        LifeboatHouse x = new LifeboatHouse();
        due("no boats", x.flanks(0), 0);
        due("no boats", x.flanks(1), 0);
        x.boat(0, 1);
        x.boat(0, 1);
        due("one to spare", x.flanks(0), 1);
        due("to the nearest", x.flanks(1), 40);
        x.boat(0, 1);
        due("no further than 80", x.flanks(0), 2);
        due("both ways together", x.flanks(1), 120);
        x.station(2, 0, 81);
        due("81 is too far", x.flanks(0), 1);
        due("one way", x.flanks(1), 40);
        LifeboatHouse y = new LifeboatHouse();
        for (int i = 0; i < 4; i++) y.boat(i < 2 ? 2 : 4, 1);
        // 0 can be helped from 2 alone, so 3 or 5 is helped from 4
        due("the most", y.flanks(0), 2);
        due("the least miles", y.flanks(1), 80);
        due("other", y.flanks(2), -2);
        due("other below", y.flanks(-1), -2);
        y.speed(0, 0, 30);
        y.call(80, 0, 0);
        y.send(0, 0, 0, false);
        due("a boat that is away helps not", y.flanks(0), 1);
    }

    private static void flank() {
        promise = 24;
        LifeboatHouse x = new LifeboatHouse();
        for (int i = 0; i < 4; i++) x.boat(i < 2 ? 2 : 4, 1);
        due("too dear", x.flank(0), -9);
        due("the least station", x.flank(1), 2);
        due("covered", x.flank(2), -9);
        due("the least helper is taken by 1", x.flank(3), 4);
        due("none behind all", x.flank(5), -9);
        // both ways of helping 1 and 3 at one mile are as long: the least helper goes to 1
        x.station(1, 0, 120);
        due("the least helper first", x.flank(1), 2);
        due("then the other", x.flank(3), 4);
        due("they are not moved", x.covered(1), 0);
        due("no station", x.flank(6), -1);
        due("no station below", x.flank(-1), -1);
    }

    private static void box() {
        promise = 25;
        LifeboatHouse x = new LifeboatHouse();
        due("was", x.box(11, 9999), 0);
        due("was then", x.box(11, 0), 9999);
        due("no box", x.box(12, -1), -1);
        due("no box below", x.box(-1, 0), -1);
        due("below", x.box(0, -1), -4);
        due("above", x.box(0, 10000), -6);
    }

    private static void look() {
        promise = 26;
        LifeboatHouse x = new LifeboatHouse();
        x.box(3, 9999);
        due("eyes 0", x.look(3, 0), 9999);
        due("eyes 9, cut", x.look(3, 9), 999);
        due("eyes 3, cut", x.look(3, 3), 699);
        due("it stays", x.box(3, 0), 699);
        due("no box", x.look(12, -1), -1);
        due("no box below", x.look(-1, 0), -1);
        due("below", x.look(3, -1), -4);
        due("above", x.look(3, 10), -6);
    }

    private static void looks() {
        promise = 27;
        LifeboatHouse x = new LifeboatHouse();
        due("nothing", x.looks(20, 9), 0);
        x.box(11, 99);
        x.box(2, 45);
        due("one", x.looks(1, 5), 49);
        due("49, 24 and 22, then 12", x.looks(4, 5), 49 + 24 + 22 + 12);
        due("nothing changed", x.box(11, 99), 99);
        due("n below", x.looks(0, 10), -4);
        x.box(1, 9999);
        due("the greatest is box 1", x.looks(1, 9), 8999);
        due("eyes below, n above", x.looks(21, -1), -4);
        due("n above", x.looks(21, 0), -6);
        due("eyes above", x.looks(20, 10), -6);
    }

    private static void lookAt() {
        promise = 28;
        LifeboatHouse x = new LifeboatHouse();
        due("of several the least", x.lookAt(20, 9, 19), 0);
        x.box(11, 99);
        x.box(2, 45);
        int[] row = {11, 11, 2, 11, 2, 11, 2};
        for (int i = 0; i < 7; i++) due("look " + i, x.lookAt(7, 5, i), row[i]);
        due("not so many", x.lookAt(7, 5, 7), -9);
        due("far too many", x.lookAt(7, 5, TOP), -9);
        due("none below 0", x.lookAt(7, 5, -1), -9);
        due("n below", x.lookAt(0, 10, 0), -4);
        due("eyes below", x.lookAt(21, -1, 0), -4);
        due("n above", x.lookAt(21, 0, 99), -6);
        due("eyes above", x.lookAt(20, 10, 0), -6);
    }

    private static void rest() {
        promise = 29;
        LifeboatHouse x = new LifeboatHouse();
        due("nobody", x.rest(0, -1), -1);
        x.person(0, 1, 200);
        due("was", x.rest(0, 200000), 0);
        due("was then", x.rest(0, 0), 200000);
        due("rests not", x.partOf(0, 0), 512);
        x.minutes(100);
        due("ahead of now", x.rest(0, 99), -4);
        due("till now", x.rest(0, 100), 0);
        due("above", x.rest(0, 200001), -6);
        due("stays", x.personOf(0, 3), 100);
        due("nobody below", x.rest(-1, 100), -1);
    }

    private static void turn() {
        promise = 30;
        LifeboatHouse x = new LifeboatHouse();
        due("nobody there", x.turn(0, 0), -9);
        x.person(0, 1, 7);
        x.person(0, 1, 5);
        x.person(1, 1, 0);
        x.person(0, 8, 7);
        x.person(0, 0, 5);
        int[] row = {1, 4, 0, 3, -9};
        for (int i = 0; i < 5; i++) due("turn " + i, x.turn(0, i), row[i]);
        due("below 0", x.turn(0, -1), -9);
        due("another station", x.turn(1, 0), 2);
        x.papers(3, 0);
        due("other papers", x.turn(0, 0), 3);
        due("no station", x.turn(6, 0), -1);
        due("no station below", x.turn(-1, 0), -1);
    }

    private static void personOf() {
        promise = 31;
        LifeboatHouse x = new LifeboatHouse();
        due("nobody", x.personOf(0, 20), -1);
        x.person(4, 11, 33);
        x.rest(0, 12345);
        int[] row = {4, 11, 33, 12345};
        for (int what = 0; what < 4; what++) due("personOf(0, " + what + ")", x.personOf(0, what), row[what]);
        // each band is paged once more than the one ahead of it
        for (int band = 0; band < 4; band++) {
            for (int i = 0; i <= band; i++) x.page(0, i > 0);
            x.minutes(360);
        }
        x.minutes(4 * 1440);
        for (int band = 4; band < 8; band++) {
            for (int i = 0; i <= band; i++) x.page(0, i > 0);
            x.minutes(360);
        }
        for (int band = 0; band < 8; band++) {
            due("paged " + band, x.personOf(0, 4 + band), band + 1);
            due("came " + band, x.personOf(0, 12 + band), band);
        }
        due("nobody below", x.personOf(-1, 0), -1);
        due("other", x.personOf(0, 20), -2);
        due("other below", x.personOf(0, -1), -2);
    }

    private static void count() {
        promise = 32;
        LifeboatHouse x = new LifeboatHouse();
        x.minutes(1440 * 6 + 1439);
        due("minute", x.count(0), 10079);
        due("band", x.count(1), 7);
        x.minutes(1);
        due("a new week", x.count(1), 0);
        x.minutes(1440 * 5 - 1);
        due("the fifth day's end", x.count(1), 3);
        x.minutes(1);
        due("the sixth day", x.count(1), 4);
        x.person(0, 1, 1);
        x.boat(0, 20);
        x.boat(0, 20);
        x.boat(5, 20);
        x.speed(2, 0, 30);
        x.call(200, 0, 0);
        x.send(2, 0, 0, false);
        int[] row = {17280, 4, 1, 3, 1, 1, 1, 1};
        for (int what = 0; what < 8; what++) due("count(" + what + ")", x.count(what), row[what]);
        x.minutes(9);
        due("none away", x.count(4), 0);
        due("two are covered", x.count(7), 2);
        for (int what = 8; what < 11; what++) due("count(" + what + ")", x.count(what), -9);
        due("count(17)", x.count(17), -9);
        due("count(-1)", x.count(-1), -9);
        due("count(TOP)", x.count(TOP), -9);
        due("count(LOW)", x.count(LOW), -9);
        x.papers(9, 0);
        x.log(0, 9);
        x.log(9, 0);
        x.set(2, 0);
        x.send(0, 0, 0, false);
        x.minutes(0);
        x.box(0, 10000);
        x.box(0, 10000);
        int[] refusals = {1, 2, 1, 1, 0, 2};
        for (int i = 0; i < 6; i++) due("refusals " + (i + 1), x.count(11 + i), refusals[i]);
    }

    public static void main(String[] args) {
        newObject();
        station();
        person();
        papers();
        page();
        partOf();
        set();
        chance();
        weak();
        tide();
        slip();
        minutes();
        boat();
        speed();
        move();
        call();
        reach();
        reachWhenAway();
        first();
        two();
        twoTogether();
        send();
        log();
        covered();
        flanks();
        flank();
        box();
        look();
        looks();
        lookAt();
        rest();
        turn();
        personOf();
        count();
        System.out.println(wrong == 0 ? "every promise holds" : wrong + " answers are not as due");
        if (wrong != 0) System.exit(1);
    }
}
