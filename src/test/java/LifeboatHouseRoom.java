import com.sun.management.ThreadMXBean;
import java.lang.management.ManagementFactory;
import java.util.function.ToIntFunction;

/**
 * How much room an object takes: made, filled to its limits and asked for all of its 512 calls.
 * Bytes are counted: an object has 16 at least, so that they bound how many were made, too.
 */
public final class LifeboatHouseRoom {
    private static final int CALLS = 512;
    private static final int ASKED = 400;
    private static final long MOST_BYTES = 64 * 1024;
    private static final ThreadMXBean THREADS = (ThreadMXBean) ManagementFactory.getThreadMXBean();
    private static int wrong = 0;

    private static void filled(LifeboatHouse x) {
        for (int i = 0; i < 40; i++) x.person(i % 2, 1 + i % 15, 200);
        for (int i = 0; i < 8; i++) x.boat(i % 2 * 3, 20);
        for (int i = 0; i < 8; i++) x.speed(i, 0, 10 + i);
        for (int i = 0; i < 20; i++) x.call(10 * i, i, 0);
        for (int i = 0; i < 12; i++) x.box(i, 9999 - i);
        x.station(0, 1, 1);
        x.tide(24, 1);
        x.tide(0, 0);
    }

    private static void most(String what, long bytes, long most) {
        if (bytes <= most) return;
        wrong++;
        System.out.println(what + " takes " + bytes + " bytes, due are " + most + " at most");
    }

    private static long now() {
        return THREADS.getCurrentThreadAllocatedBytes();
    }

    /** One object a call would be 16 bytes a call; fewer are the machine's own, as it loads and compiles. */
    private static void takesNone(String what, ToIntFunction<LifeboatHouse> call) {
        LifeboatHouse x = new LifeboatHouse();
        filled(x);
        call.applyAsInt(x);
        long before = now();
        for (int i = 0; i < ASKED; i++) call.applyAsInt(x);
        most(what, now() - before, 16 * ASKED - 1);
    }

    private static void wholeRun() {
        long before = now();
        LifeboatHouse x = new LifeboatHouse();
        filled(x);
        int calls = 40 + 8 + 8 + 20 + 12 + 3;
        for (int i = 0; i < 40; i++) {
            x.send(7, 0, 0, false);
            x.minutes(2000);
            calls += 2;
        }
        for (; calls < CALLS; calls++) x.weak(0, 50);
        most("a run of " + CALLS + " calls", now() - before, MOST_BYTES);
        if (x.count(6) != 40) most("logs that are missing", 40 - x.count(6), 0);
    }

    public static void main(String[] args) {
        now();
        takesNone("station", x -> x.station(1, 0, 7));
        takesNone("person, no room", x -> x.person(0, 1, 1));
        takesNone("papers", x -> x.papers(39, 7));
        takesNone("page", x -> x.page(0, true));
        takesNone("partOf", x -> x.partOf(0, 7));
        takesNone("set", x -> x.set(0, 6));
        takesNone("chance", x -> x.chance(0, 0));
        takesNone("weak", x -> x.weak(0, 50));
        takesNone("tide", x -> x.tide(7, 7));
        takesNone("slip", x -> x.slip(0, 4000));
        takesNone("minutes", x -> x.minutes(1));
        takesNone("boat, no room", x -> x.boat(0, 1));
        takesNone("speed", x -> x.speed(7, 4, 30));
        takesNone("move", x -> x.move(0, 5));
        takesNone("call, no room", x -> x.call(0, 0, 0));
        takesNone("reach", x -> x.reach(0, 0, 1));
        takesNone("first", x -> x.first(0));
        takesNone("two", x -> x.two(0, 19, 0));
        takesNone("send, refused", x -> x.send(0, 0, -1, true));
        takesNone("log", x -> x.log(0, 0));
        takesNone("covered", x -> x.covered(5));
        takesNone("flanks", x -> x.flanks(1));
        takesNone("flank", x -> x.flank(5));
        takesNone("box", x -> x.box(11, 1));
        takesNone("look", x -> x.look(11, 1));
        takesNone("looks", x -> x.looks(20, 9));
        takesNone("lookAt", x -> x.lookAt(20, 9, 19));
        takesNone("rest", x -> x.rest(0, 7));
        takesNone("turn", x -> x.turn(0, 19));
        takesNone("personOf", x -> x.personOf(0, 19));
        takesNone("count", x -> x.count(7));
        wholeRun();
        System.out.println(wrong == 0 ? "no call takes more room than is due" : wrong + " take more");
        if (wrong != 0) System.exit(1);
    }
}
