import java.lang.reflect.InvocationTargetException;
import java.lang.reflect.Method;
import java.lang.reflect.Modifier;
import java.util.ArrayList;
import java.util.Arrays;
import java.util.List;
import java.util.function.Consumer;
import java.util.function.Supplier;
import java.util.function.ToIntFunction;

/**
 * Each refusal that a promise lists, on its boundary and far beyond it, and of two that fit the
 * one that is told first; behind each of them nothing may have changed but how many there were.
 */
public final class LifeboatHouseRefusals {
    private static final int LOW = Integer.MIN_VALUE;
    private static final int TOP = Integer.MAX_VALUE;
    private static final int[] BELOW_0 = {-1, LOW};
    private static final int[] NO_STATION = {-1, 6, LOW, TOP};
    private static final int[] NO_BAND = {-1, 8, LOW, TOP};
    private static final int[] NO_SEA = {-1, 5, LOW, TOP};
    private static final int[] NO_BOX = {-1, 12, LOW, TOP};
    private static final int[] NO_HOUR = {-1, 25, LOW, TOP};
    /** The furnished object has three people, three boats and three calls. */
    private static final int[] NONE_OF_THREE = {-1, 3, LOW, TOP};

    private static int wrong = 0;
    private static int rows = 0;
    private static int promise = 0;

    // ---- objects to ask

    /** Something of everything: boat 1 is away, person 1 rests, person 2 is young. */
    private static LifeboatHouse furnished() {
        LifeboatHouse x = new LifeboatHouse();
        x.set(0, 3);
        x.set(1, 12);
        x.station(1, 1, 3);
        x.station(2, 0, 95);
        x.tide(0, 3);
        x.tide(1, 2);
        x.tide(7, 12);
        x.tide(24, 5);
        x.person(0, 1, 50);
        x.person(0, 2, 60);
        x.person(1, 12, 70);
        x.page(0, true);
        x.page(0, false);
        x.page(2, true);
        x.minutes(400);
        x.page(1, true);
        x.rest(1, 2000);
        x.boat(0, 10);
        x.boat(0, 12);
        x.boat(2, 20);
        x.speed(0, 0, 20);
        x.speed(0, 1, 10);
        x.speed(1, 0, 25);
        x.speed(2, 0, 15);
        x.speed(2, 4, 30);
        x.call(10, 5, 0);
        x.call(90, 20, 0);
        x.call(100, 10, 4);
        x.box(0, 100);
        x.box(5, 900);
        x.box(11, 9999);
        x.look(5, 3);
        x.send(1, 0, 60, true);
        x.minutes(20);
        // one of each refusal, so that the counts don't start at 0
        x.box(12, 0);
        x.log(0, 5);
        x.move(1, 0);
        x.minutes(0);
        x.set(0, 7);
        return x;
    }

    /** As many people, boats and calls as there may be. */
    private static LifeboatHouse full() {
        LifeboatHouse x = new LifeboatHouse();
        for (int i = 0; i < 40; i++) x.person(i % 6, i % 16, i);
        for (int i = 0; i < 8; i++) x.boat(i % 6, 1 + i);
        for (int i = 0; i < 20; i++) x.call(i, i, i % 5);
        x.speed(0, 0, 30);
        x.minutes(30);
        return x;
    }

    /** As many logs as there may be; the boat is home. */
    private static LifeboatHouse logged() {
        LifeboatHouse x = new LifeboatHouse();
        x.boat(0, 1);
        x.speed(0, 0, 30);
        x.call(0, 0, 0);
        for (int i = 0; i < 40; i++) {
            x.send(0, 0, i, false);
            x.minutes(9 + i);
        }
        return x;
    }

    /** Person 0 is paged 200 times in the band of now. */
    private static LifeboatHouse paged() {
        LifeboatHouse x = new LifeboatHouse();
        x.person(0, 1, 200);
        x.person(0, 2, 200);
        x.minutes(360);
        for (int i = 0; i < 200; i++) x.page(0, i % 2 == 0);
        return x;
    }

    private static LifeboatHouse furnishedAnd(Consumer<LifeboatHouse> more) {
        LifeboatHouse x = furnished();
        more.accept(x);
        return x;
    }

    // ---- what there is to be seen of an object; each reads a fresh one, and some change it

    private static List<Integer> people(LifeboatHouse x) {
        List<Integer> seen = new ArrayList<>();
        int last = x.count(2) - 1;
        for (int n = 0; n <= last; n++) {
            // an object is good for 512 calls, too few to look at 40 people
            if (n >= 3 && n < last) continue;
            for (int what = 0; what < 20; what++) seen.add(x.personOf(n, what));
            for (int band = 0; band < 8; band++) seen.add(x.partOf(n, band));
        }
        for (int s = 0; s < 6; s++) {
            for (int i = 0; i < 3; i++) seen.add(x.turn(s, i));
            for (int band = 0; band < 8; band++) seen.add(x.chance(s, band));
            seen.add(x.weak(s, 50));
        }
        seen.add(x.person(0, 1, 1));
        return seen;
    }

    private static List<Integer> boats(LifeboatHouse x) {
        List<Integer> seen = new ArrayList<>();
        for (int b = 0; b < 3; b++) {
            for (int c = 0; c < 3; c++) {
                for (int what = 0; what < 3; what++) seen.add(x.reach(b, c, what));
            }
        }
        for (int c = 0; c < 3; c++) seen.add(x.first(c));
        for (int what = 0; what < 3; what++) seen.add(x.two(0, 1, what));
        int last = x.count(6) - 1;
        for (int i = 0; i <= last; i++) {
            if (i > 0 && i < last) continue;
            for (int what = 0; what < 5; what++) seen.add(x.log(i, what));
        }
        for (int s = 0; s < 6; s++) seen.add(x.covered(s));
        for (int s = 0; s < 6; s++) seen.add(x.flank(s));
        seen.add(x.flanks(0));
        seen.add(x.flanks(1));
        for (int b = 0; b < 3; b++) {
            for (int sea = 0; sea < 5; sea++) seen.add(x.speed(b, sea, 0));
            seen.add(x.move(b, 0));
        }
        seen.add(x.boat(0, 1));
        seen.add(x.call(0, 0, 0));
        return seen;
    }

    private static List<Integer> places(LifeboatHouse x) {
        List<Integer> seen = new ArrayList<>();
        for (int what = 0; what <= 7; what++) seen.add(x.count(what));
        for (int i = 0; i < 20; i++) seen.add(x.lookAt(20, 5, i));
        seen.add(x.looks(20, 5));
        for (int b = 0; b < 12; b++) seen.add(x.box(b, 0));
        for (int s = 0; s < 6; s++) {
            seen.add(x.station(s, 0, 0));
            seen.add(x.station(s, 1, 0));
        }
        seen.add(x.set(0, 4));
        seen.add(x.set(1, 9));
        seen.add(x.minutes(1));
        return seen;
    }

    private static List<Integer> feet(LifeboatHouse x, int from, int to) {
        List<Integer> seen = new ArrayList<>();
        for (int needs = from; needs <= to; needs++) {
            x.station(0, 1, needs);
            for (int hour = 0; hour < 25; hour++) seen.add(x.slip(0, hour));
        }
        return seen;
    }

    private static List<Integer> refusals(LifeboatHouse x) {
        List<Integer> seen = new ArrayList<>();
        for (int what = 11; what <= 16; what++) seen.add(x.count(what));
        return seen;
    }

    // ---- rows of the test

    private interface Look {
        List<Integer> at(LifeboatHouse x);
    }

    private static void same(String name, String what, Supplier<LifeboatHouse> made, ToIntFunction<LifeboatHouse> call, Look look) {
        LifeboatHouse x = made.get();
        call.applyAsInt(x);
        List<Integer> with = look.at(x);
        List<Integer> without = look.at(made.get());
        if (!with.equals(without)) tell(name + " changed " + what + " from " + without + " to " + with);
    }

    private static void tell(String fault) {
        wrong++;
        System.out.println("promise " + promise + ": " + fault);
    }

    /** The call answers what is due; it is counted if that is a refusal; nothing else changes. */
    private static void changesNothing(String name, Supplier<LifeboatHouse> made, ToIntFunction<LifeboatHouse> call, int due) {
        rows++;
        LifeboatHouse x = made.get();
        List<Integer> counted = refusals(x);
        int got = call.applyAsInt(x);
        if (got != due) tell(name + " answered " + got + ", due is " + due);
        if (due < 0 && due >= -6) counted.set(-due - 1, counted.get(-due - 1) + 1);
        if (!refusals(x).equals(counted)) tell(name + " counted as " + refusals(x) + ", due is " + counted);
        same(name, "people", made, call, LifeboatHouseRefusals::people);
        same(name, "boats", made, call, LifeboatHouseRefusals::boats);
        same(name, "places", made, call, LifeboatHouseRefusals::places);
        same(name, "feet", made, call, y -> feet(y, 1, 6));
        same(name, "feet", made, call, y -> feet(y, 7, 12));
    }

    private static void no(String name, int due, ToIntFunction<LifeboatHouse> call) {
        changesNothing(name, LifeboatHouseRefusals::furnished, call, due);
    }

    private static void noAfter(String name, Consumer<LifeboatHouse> more, int due, ToIntFunction<LifeboatHouse> call) {
        changesNothing(name, () -> furnishedAnd(more), call, due);
    }

    private static void station() {
        promise = 2;
        for (int s : NO_STATION) no("STATION " + s, -1, x -> x.station(s, 0, 0));
        no("-1 ahead of -2", -1, x -> x.station(6, 2, 0));
        no("-1 ahead of -4", -1, x -> x.station(6, 0, -1));
        no("-1 ahead of -6", -1, x -> x.station(6, 0, 301));
        for (int what : new int[] {-1, 2, LOW, TOP}) no("what " + what, -2, x -> x.station(0, what, 0));
        no("-2 ahead of -4", -2, x -> x.station(0, 2, -1));
        no("-2 ahead of -6", -2, x -> x.station(0, 2, 301));
        for (int v : BELOW_0) no("MILES " + v, -4, x -> x.station(2, 0, v));
        for (int v : BELOW_0) no("NEEDS " + v, -4, x -> x.station(1, 1, v));
        for (int v : new int[] {301, TOP}) no("MILES " + v, -6, x -> x.station(2, 0, v));
        for (int v : new int[] {13, 300, TOP}) no("NEEDS " + v, -6, x -> x.station(1, 1, v));
    }

    private static void person() {
        promise = 3;
        for (int s : NO_STATION) no("STATION " + s, -1, x -> x.person(s, 1, 1));
        no("-1 ahead of -4", -1, x -> x.person(6, -1, -1));
        no("-1 ahead of -6", -1, x -> x.person(6, 16, 201));
        for (int v : BELOW_0) no("SKILLS " + v, -4, x -> x.person(0, v, 1));
        for (int v : BELOW_0) no("PAPERS " + v, -4, x -> x.person(0, 1, v));
        no("-4 of PAPERS ahead of -6 of SKILLS", -4, x -> x.person(0, 16, -1));
        no("-4 of SKILLS ahead of -6 of PAPERS", -4, x -> x.person(0, -1, 201));
        for (int v : new int[] {16, TOP}) no("SKILLS " + v, -6, x -> x.person(0, v, 1));
        for (int v : new int[] {201, TOP}) no("PAPERS " + v, -6, x -> x.person(0, 1, v));
        changesNothing("the 41st", LifeboatHouseRefusals::full, x -> x.person(0, 1, 1), -6);
        changesNothing("-1 ahead of the 41st", LifeboatHouseRefusals::full, x -> x.person(6, 1, 1), -1);
        changesNothing("-4 ahead of the 41st", LifeboatHouseRefusals::full, x -> x.person(0, 1, -1), -4);
    }

    private static void papers() {
        promise = 4;
        for (int p : NONE_OF_THREE) no("PERSON " + p, -1, x -> x.papers(p, 1));
        no("-1 ahead of -4", -1, x -> x.papers(3, -1));
        no("-1 ahead of -6", -1, x -> x.papers(3, 201));
        for (int v : BELOW_0) no("DAY " + v, -4, x -> x.papers(0, v));
        for (int v : new int[] {201, TOP}) no("DAY " + v, -6, x -> x.papers(0, v));
    }

    private static void page() {
        promise = 5;
        for (int p : NONE_OF_THREE) no("PERSON " + p, -1, x -> x.page(p, true));
        changesNothing("the 201st that came", LifeboatHouseRefusals::paged, x -> x.page(0, true), -6);
        changesNothing("the 201st that did not", LifeboatHouseRefusals::paged, x -> x.page(0, false), -6);
    }

    private static void partOf() {
        promise = 6;
        for (int p : NONE_OF_THREE) no("PERSON " + p, -1, x -> x.partOf(p, 0));
        for (int b : NO_BAND) no("BAND " + b, -1, x -> x.partOf(0, b));
        no("of both once", -1, x -> x.partOf(3, 8));
    }

    private static void set() {
        promise = 7;
        for (int what : new int[] {-1, 2, LOW, TOP}) no("what " + what, -2, x -> x.set(what, 5));
        no("-2 ahead of -4", -2, x -> x.set(2, -1));
        no("-2 ahead of -6", -2, x -> x.set(2, 31));
        for (int v : new int[] {1, 0, -1, LOW}) no("SIZE " + v, -4, x -> x.set(0, v));
        for (int v : new int[] {4, 0, -1, LOW}) no("GATHER " + v, -4, x -> x.set(1, v));
        for (int v : new int[] {7, 30, TOP}) no("SIZE " + v, -6, x -> x.set(0, v));
        for (int v : new int[] {31, TOP}) no("GATHER " + v, -6, x -> x.set(1, v));
    }

    private static void chance() {
        promise = 8;
        for (int s : NO_STATION) no("STATION " + s, -1, x -> x.chance(s, 0));
        for (int b : NO_BAND) no("BAND " + b, -1, x -> x.chance(0, b));
        no("of both once", -1, x -> x.chance(6, 8));
    }

    private static void weak() {
        promise = 9;
        for (int s : NO_STATION) no("STATION " + s, -1, x -> x.weak(s, 50));
        no("-1 ahead of -4", -1, x -> x.weak(6, -1));
        no("-1 ahead of -6", -1, x -> x.weak(6, 101));
        for (int v : BELOW_0) no("share " + v, -4, x -> x.weak(0, v));
        for (int v : new int[] {101, TOP}) no("share " + v, -6, x -> x.weak(0, v));
    }

    private static void tide() {
        promise = 10;
        for (int h : NO_HOUR) no("HOUR " + h, -1, x -> x.tide(h, 1));
        no("-1 ahead of -4", -1, x -> x.tide(25, -2));
        no("-1 ahead of -6", -1, x -> x.tide(25, 13));
        for (int v : new int[] {-2, LOW}) no("HIGH " + v, -4, x -> x.tide(0, v));
        for (int v : new int[] {13, TOP}) no("HIGH " + v, -6, x -> x.tide(0, v));
    }

    private static void slip() {
        promise = 11;
        for (int s : NO_STATION) no("STATION " + s, -1, x -> x.slip(s, 0));
        no("-1 ahead of -4", -1, x -> x.slip(6, -1));
        no("-1 ahead of -6", -1, x -> x.slip(6, 4001));
        for (int h : BELOW_0) no("HOUR " + h, -4, x -> x.slip(0, h));
        for (int h : new int[] {4001, TOP}) no("HOUR " + h, -6, x -> x.slip(0, h));
    }

    private static void minutes() {
        promise = 12;
        for (int n : new int[] {0, -1, LOW}) no("n " + n, -4, x -> x.minutes(n));
        for (int n : new int[] {200000 - 420 + 1, 200000, 200001, TOP}) no("n " + n, -6, x -> x.minutes(n));
    }

    private static void boat() {
        promise = 13;
        for (int s : NO_STATION) no("STATION " + s, -1, x -> x.boat(s, 1));
        no("-1 ahead of -4", -1, x -> x.boat(6, 0));
        no("-1 ahead of -6", -1, x -> x.boat(6, 21));
        for (int v : new int[] {0, -1, LOW}) no("FUEL " + v, -4, x -> x.boat(0, v));
        for (int v : new int[] {21, TOP}) no("FUEL " + v, -6, x -> x.boat(0, v));
        changesNothing("the ninth", LifeboatHouseRefusals::full, x -> x.boat(0, 1), -6);
        changesNothing("-1 ahead of the ninth", LifeboatHouseRefusals::full, x -> x.boat(6, 1), -1);
        changesNothing("-4 ahead of the ninth", LifeboatHouseRefusals::full, x -> x.boat(0, 0), -4);
    }

    private static void speed() {
        promise = 14;
        for (int b : NONE_OF_THREE) no("BOAT " + b, -1, x -> x.speed(b, 0, 1));
        for (int s : NO_SEA) no("SEA " + s, -1, x -> x.speed(0, s, 1));
        no("of both once", -1, x -> x.speed(3, 5, 1));
        no("-1 of BOAT ahead of -4", -1, x -> x.speed(3, 0, -1));
        no("-1 of SEA ahead of -4", -1, x -> x.speed(0, 5, -1));
        no("-1 of SEA ahead of -6", -1, x -> x.speed(0, 5, 31));
        for (int v : BELOW_0) no("SPEED " + v, -4, x -> x.speed(0, 0, v));
        for (int v : new int[] {31, TOP}) no("SPEED " + v, -6, x -> x.speed(0, 0, v));
    }

    private static void move() {
        promise = 15;
        for (int b : NONE_OF_THREE) no("BOAT " + b, -1, x -> x.move(b, 0));
        for (int s : NO_STATION) no("STATION " + s, -1, x -> x.move(0, s));
        no("of both once", -1, x -> x.move(3, 6));
        no("-1 ahead of -3", -1, x -> x.move(1, 6));
        no("AWAY", -3, x -> x.move(1, 5));
        no("AWAY, to where it is at", -3, x -> x.move(1, 0));
    }

    private static void call() {
        promise = 16;
        for (int s : NO_SEA) no("SEA " + s, -1, x -> x.call(0, 0, s));
        no("-1 ahead of -4", -1, x -> x.call(-1, -1, 5));
        no("-1 ahead of -6", -1, x -> x.call(301, 61, 5));
        for (int v : BELOW_0) no("MILES " + v, -4, x -> x.call(v, 0, 0));
        for (int v : BELOW_0) no("OUT " + v, -4, x -> x.call(0, v, 0));
        no("-4 of OUT ahead of -6 of MILES", -4, x -> x.call(301, -1, 0));
        no("-4 of MILES ahead of -6 of OUT", -4, x -> x.call(-1, 61, 0));
        for (int v : new int[] {301, TOP}) no("MILES " + v, -6, x -> x.call(v, 0, 0));
        for (int v : new int[] {61, 300, TOP}) no("OUT " + v, -6, x -> x.call(0, v, 0));
        changesNothing("the 21st", LifeboatHouseRefusals::full, x -> x.call(0, 0, 0), -6);
        changesNothing("-1 ahead of the 21st", LifeboatHouseRefusals::full, x -> x.call(0, 0, 5), -1);
        changesNothing("-4 ahead of the 21st", LifeboatHouseRefusals::full, x -> x.call(0, -1, 0), -4);
    }

    private static void reach() {
        promise = 17;
        for (int b : NONE_OF_THREE) no("BOAT " + b, -1, x -> x.reach(b, 0, 0));
        for (int c : NONE_OF_THREE) no("CALL " + c, -1, x -> x.reach(0, c, 0));
        no("of both once", -1, x -> x.reach(3, 3, 0));
        no("-1 of BOAT ahead of -2", -1, x -> x.reach(3, 0, 3));
        no("-1 of CALL ahead of -2", -1, x -> x.reach(0, 3, 3));
        for (int what : new int[] {-1, 3, LOW, TOP}) no("what " + what, -2, x -> x.reach(0, 0, what));
        no("what, of one that can not", -2, x -> x.reach(0, 2, 3));
    }

    private static void firstAndTwo() {
        promise = 18;
        for (int c : NONE_OF_THREE) no("CALL " + c, -1, x -> x.first(c));
        promise = 19;
        for (int c : NONE_OF_THREE) no("the first CALL " + c, -1, x -> x.two(c, 0, 0));
        for (int c : NONE_OF_THREE) no("the second CALL " + c, -1, x -> x.two(0, c, 0));
        no("one CALL twice", -1, x -> x.two(1, 1, 0));
        no("no CALL twice", -1, x -> x.two(3, 3, 0));
        no("-1 ahead of -2", -1, x -> x.two(0, 3, 3));
        no("-1 of one twice ahead of -2", -1, x -> x.two(1, 1, 3));
        for (int what : new int[] {-1, 3, LOW, TOP}) no("what " + what, -2, x -> x.two(0, 1, what));
    }

    private static void send() {
        promise = 20;
        for (int b : NONE_OF_THREE) no("BOAT " + b, -1, x -> x.send(b, 0, 0, false));
        for (int c : NONE_OF_THREE) no("CALL " + c, -1, x -> x.send(0, c, 0, true));
        no("of both once", -1, x -> x.send(3, 3, 0, true));
        no("-1 ahead of -3", -1, x -> x.send(1, 3, 0, true));
        no("-1 ahead of -4", -1, x -> x.send(0, 3, -1, true));
        no("-1 ahead of -6", -1, x -> x.send(3, 0, 601, true));
        no("SPEED 0", -3, x -> x.send(0, 2, 0, false));
        noAfter("too far for its FUEL", x -> x.speed(0, 0, 2), -3, x -> x.send(0, 0, 0, false));
        noAfter("never", x -> neverOpens(x), -3, x -> x.send(0, 0, 0, false));
        no("AWAY", -3, x -> x.send(1, 0, 0, false));
        no("-3 ahead of -4", -3, x -> x.send(1, 0, -1, false));
        no("-3 ahead of -6", -3, x -> x.send(1, 0, 601, false));
        no("-3 of SPEED 0 ahead of -4", -3, x -> x.send(0, 2, -1, false));
        noAfter("-3 of never ahead of -4", x -> neverOpens(x), -3, x -> x.send(0, 0, -1, false));
        for (int v : BELOW_0) no("HELP " + v, -4, x -> x.send(0, 0, v, true));
        for (int v : new int[] {601, TOP}) no("HELP " + v, -6, x -> x.send(0, 0, v, true));
        changesNothing("the 41st", LifeboatHouseRefusals::logged, x -> x.send(0, 0, 0, false), -6);
        changesNothing("-1 ahead of the 41st", LifeboatHouseRefusals::logged, x -> x.send(1, 0, 0, false), -1);
        changesNothing("-4 ahead of the 41st", LifeboatHouseRefusals::logged, x -> x.send(0, 0, -1, false), -4);
    }

    /** No hour of the row has 12 feet any more, and station 0 needs as many. */
    private static void neverOpens(LifeboatHouse x) {
        x.station(0, 1, 12);
        x.tide(7, 11);
    }

    private static void logAndCover() {
        promise = 21;
        for (int what : new int[] {-1, 5, LOW, TOP}) no("what " + what, -2, x -> x.log(0, what));
        no("-2 where there is none such", -2, x -> x.log(1, 5));
        no("-2 of a LOG below 0", -2, x -> x.log(-1, -1));
        promise = 22;
        for (int s : NO_STATION) no("STATION " + s, -1, x -> x.covered(s));
        promise = 23;
        for (int what : new int[] {-1, 2, LOW, TOP}) no("what " + what, -2, x -> x.flanks(what));
        promise = 24;
        for (int s : NO_STATION) no("STATION " + s, -1, x -> x.flank(s));
    }

    private static void boxAndLook() {
        promise = 25;
        for (int b : NO_BOX) no("BOX " + b, -1, x -> x.box(b, 1));
        no("-1 ahead of -4", -1, x -> x.box(12, -1));
        no("-1 ahead of -6", -1, x -> x.box(12, 10000));
        for (int v : BELOW_0) no("WORTH " + v, -4, x -> x.box(5, v));
        for (int v : new int[] {10000, TOP}) no("WORTH " + v, -6, x -> x.box(5, v));
        promise = 26;
        for (int b : NO_BOX) no("BOX " + b, -1, x -> x.look(b, 1));
        no("-1 ahead of -4", -1, x -> x.look(12, -1));
        no("-1 ahead of -6", -1, x -> x.look(12, 10));
        for (int v : BELOW_0) no("EYES " + v, -4, x -> x.look(5, v));
        for (int v : new int[] {10, TOP}) no("EYES " + v, -6, x -> x.look(5, v));
    }

    private static void looks() {
        for (int i : new int[] {-2, -1, 0, 20, 99}) {
            boolean inAll = i == -2;
            promise = inAll ? 27 : 28;
            for (int n : new int[] {0, -1, LOW}) no("n " + n, -4, x -> inAll ? x.looks(n, 5) : x.lookAt(n, 5, i));
            for (int v : BELOW_0) no("EYES " + v, -4, x -> inAll ? x.looks(5, v) : x.lookAt(5, v, i));
            no("-4 of n ahead of -6 of EYES", -4, x -> inAll ? x.looks(0, 10) : x.lookAt(0, 10, i));
            no("-4 of EYES ahead of -6 of n", -4, x -> inAll ? x.looks(21, -1) : x.lookAt(21, -1, i));
            for (int n : new int[] {21, TOP}) no("n " + n, -6, x -> inAll ? x.looks(n, 5) : x.lookAt(n, 5, i));
            for (int v : new int[] {10, TOP}) no("EYES " + v, -6, x -> inAll ? x.looks(5, v) : x.lookAt(5, v, i));
        }
    }

    private static void restTurnAndPersonOf() {
        promise = 29;
        for (int p : NONE_OF_THREE) no("PERSON " + p, -1, x -> x.rest(p, 1000));
        no("-1 ahead of -4", -1, x -> x.rest(3, -1));
        no("-1 ahead of -6", -1, x -> x.rest(3, 200001));
        for (int v : new int[] {419, 0, -1, LOW}) no("MINUTE " + v, -4, x -> x.rest(1, v));
        for (int v : new int[] {200001, TOP}) no("MINUTE " + v, -6, x -> x.rest(1, v));
        promise = 30;
        for (int s : NO_STATION) no("STATION " + s, -1, x -> x.turn(s, 0));
        no("-1 ahead of not so many", -1, x -> x.turn(6, 99));
        promise = 31;
        for (int p : NONE_OF_THREE) no("PERSON " + p, -1, x -> x.personOf(p, 0));
        no("-1 ahead of -2", -1, x -> x.personOf(3, 20));
        for (int what : new int[] {-1, 20, LOW, TOP}) no("what " + what, -2, x -> x.personOf(0, what));
    }

    /** -9 is an answer, not a refusal: it is not counted either. */
    private static void noneSuch() {
        promise = 17;
        no("none: it CAN not", -9, x -> x.reach(0, 2, 0));
        no("none: it CAN not", -9, x -> x.reach(0, 2, 1));
        no("0: it CAN not", 0, x -> x.reach(0, 2, 2));
        noAfter("none: never", x -> neverOpens(x), -9, x -> x.reach(0, 0, 0));
        noAfter("none: never", x -> neverOpens(x), -9, x -> x.reach(0, 0, 1));
        promise = 18;
        noAfter("none", x -> x.speed(2, 4, 0), -9, x -> x.first(2));
        promise = 19;
        for (int what = 0; what < 3; what++) {
            int told = what;
            noAfter("none", x -> x.speed(2, 4, 0), -9, x -> x.two(0, 2, told));
        }
        promise = 21;
        for (int i : new int[] {-1, 1, LOW, TOP}) no("LOG " + i, -9, x -> x.log(i, 0));
        promise = 24;
        no("none", -9, x -> x.flank(5));
        promise = 28;
        for (int i : new int[] {-1, 5, 20, LOW, TOP}) no("look " + i + " of 5", -9, x -> x.lookAt(5, 5, i));
        promise = 30;
        for (int i : new int[] {-1, 2, LOW, TOP}) no("turn " + i + " of 2", -9, x -> x.turn(0, i));
        promise = 32;
        for (int what : new int[] {-1, 8, 9, 10, 17, LOW, TOP}) no("what " + what, -9, x -> x.count(what));
    }

    /** Calls that only tell something leave everything as it is. */
    private static void onlyTold() {
        promise = 6;
        no("partOf", 512, x -> x.partOf(0, 0));
        promise = 8;
        no("chance", 0, x -> x.chance(0, 0));
        promise = 9;
        no("weak", 8, x -> x.weak(0, 50));
        promise = 11;
        no("slip", 1, x -> x.slip(1, 0));
        promise = 17;
        no("reach", 432, x -> x.reach(0, 0, 0));
        promise = 18;
        no("first", 0, x -> x.first(0));
        promise = 19;
        no("two", 1, x -> x.two(0, 1, 2) == 2 ? 1 : 0);
        promise = 21;
        no("log", 1, x -> x.log(0, 0));
        promise = 22;
        no("covered", 1, x -> x.covered(0));
        promise = 23;
        no("flanks", 0, x -> x.flanks(0));
        promise = 27;
        no("looks", 8999, x -> x.looks(1, 9));
        promise = 28;
        no("lookAt", 11, x -> x.lookAt(2, 9, 0));
        promise = 30;
        no("turn", 1, x -> x.turn(0, 1));
        promise = 31;
        no("personOf", 2000, x -> x.personOf(1, 3));
        promise = 32;
        no("count", 420, x -> x.count(0));
    }

    // ---- any arguments at all

    private static final int[] ANY = {LOW, LOW + 1, -2, -1, 0, 1, 2, 7, 200001, TOP - 1, TOP};

    /** No call throws, however far off its arguments are; what it answers is a number, -9 or one of the refusals. */
    private static void anyArguments(Supplier<LifeboatHouse> made) throws ReflectiveOperationException {
        for (Method m : LifeboatHouse.class.getDeclaredMethods()) {
            if (!Modifier.isPublic(m.getModifiers())) continue;
            int n = m.getParameterCount();
            int ways = 1;
            for (int i = 0; i < n; i++) ways *= ANY.length;
            for (int way = 0; way < ways; way++) anyCall(made.get(), m, way);
        }
    }

    private static void anyCall(LifeboatHouse x, Method m, int way) throws ReflectiveOperationException {
        Object[] given = new Object[m.getParameterCount()];
        int rest = way;
        for (int i = 0; i < given.length; i++) {
            boolean flag = m.getParameterTypes()[i] == boolean.class;
            given[i] = flag ? (Object) (rest % 2 == 0) : (Object) ANY[rest % ANY.length];
            rest /= ANY.length;
        }
        List<Integer> counted = refusals(x);
        try {
            int got = (int) m.invoke(x, given);
            if (got < 0 && got >= -6) counted.set(-got - 1, counted.get(-got - 1) + 1);
            if (got < 0 && got != -9 && (got < -6 || got == -5)) tell(m.getName() + " answered " + got);
            if (!refusals(x).equals(counted)) tell(m.getName() + Arrays.toString(given) + " is not counted as it answers");
        } catch (InvocationTargetException e) {
            tell(m.getName() + Arrays.toString(given) + " threw " + e.getCause());
        }
    }

    public static void main(String[] args) throws ReflectiveOperationException {
        station();
        person();
        papers();
        page();
        partOf();
        set();
        chance();
        weak();
        tide();
        slip();
        minutes();
        boat();
        speed();
        move();
        call();
        reach();
        firstAndTwo();
        send();
        logAndCover();
        boxAndLook();
        looks();
        restTurnAndPersonOf();
        noneSuch();
        onlyTold();
        promise = 0;
        anyArguments(LifeboatHouse::new);
        anyArguments(LifeboatHouseRefusals::furnished);
        anyArguments(LifeboatHouseRefusals::full);
        System.out.println(wrong == 0 ? rows + " calls change nothing" : wrong + " faults");
        if (wrong != 0) System.exit(1);
    }
}
