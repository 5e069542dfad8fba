import java.io.IOException;
import java.nio.file.Files;
import java.nio.file.Path;
import java.util.HashSet;
import java.util.Set;

/**
 * Each sentence of the document that names a boundary has a test of its own here, on both sides
 * of the boundary where it has two. What is refused, and that it changes nothing, is looked at
 * once more, call by call, in LifeboatHouseRefusals.
 */
public final class LifeboatHouseEdges {
    private static final int LOW = Integer.MIN_VALUE;
    private static final int TOP = Integer.MAX_VALUE;
    private static final int WHOLE = 1 << 20;
    private static int wrong = 0;
    private static final Set<String> SENTENCES = new HashSet<>();
    private static String sentence = "";
    private static String document = "";

    /** The words are the document's own, so that a test can be found by them. */
    private static void says(String words) {
        sentence = words;
        SENTENCES.add(words);
        if (!document.contains(words)) {
            wrong++;
            System.out.println("\"" + words + "\" does not stand in the document");
        }
    }

    private static void due(String what, int got, int want) {
        if (got != want) {
            wrong++;
            System.out.println("\"" + sentence + "\": " + what + " answered " + got + ", due is " + want);
        }
    }

    private static LifeboatHouse at(int minute) {
        LifeboatHouse x = new LifeboatHouse();
        if (minute > 0) x.minutes(minute);
        return x;
    }

    private static int bandAt(int minute) {
        return at(minute).count(1);
    }

    // ==== I. time

    private static void minutes() {
        says("MINUTES go on from 0 (200000 at most)");
        due("at first", new LifeboatHouse().count(0), 0);
        due("the first", at(0).minutes(1), 1);
        due("all at once", at(0).minutes(200000), 200000);
        due("one too many at once", at(0).minutes(200001), -6);
        due("one ahead of the last", at(1).minutes(199998), 199999);
        due("the last of two", at(1).minutes(199999), 200000);
        due("one behind the last of two", at(1).minutes(200000), -6);
        due("at the last none is left", at(200000).minutes(1), -6);
        due("a sum that wraps around", at(200000).minutes(TOP), -6);
        says("-4 below 1; -6 above 200000.");
        due("0", at(5).minutes(0), -4);
        due("0 at the last", at(200000).minutes(0), -4);
        due("below", at(5).minutes(-1), -4);
        due("far below", at(5).minutes(LOW), -4);
    }

    private static void lastMinute() {
        says("MINUTES go on from 0 (200000 at most)");
        LifeboatHouse x = at(200000);
        due("BAND: HOUR 3333 is 21 of DAY 138", x.count(1), 7);
        x.person(0, 1, 137);
        x.person(0, 2, 138);
        due("PAPERS of the DAY ahead", x.partOf(0, 7), 0);
        due("PAPERS of this DAY", x.partOf(1, 7), 512);
        x.boat(0, 20);
        x.speed(0, 0, 30);
        x.call(0, 60, 0);
        due("LAUNCH behind the last MINUTE", x.reach(0, 0, 0), 200009);
        due("HOME behind the last MINUTE", x.send(0, 0, 600, true), 200009 + 120 + 600 + 240);
        due("AWAY for good", x.count(4), 1);
        due("LAUNCH from HOME", x.reach(0, 0, 0), 200969 + 9);
    }

    private static void bands() {
        says("BAND of a MINUTE: HOUR modulo 24 by 6 (0 .. 3)");
        int[] starts = {0, 360, 720, 1080};
        for (int band = 0; band < 4; band++) {
            due("its first MINUTE", bandAt(starts[band]), band);
            due("its second HOUR", bandAt(starts[band] + 60), band);
            due("its last MINUTE", bandAt(starts[band] + 359), band);
        }
        due("the next DAY wraps around", bandAt(1440), 0);
        due("the next DAY's second", bandAt(1440 + 360), 1);
    }

    private static void bandsOfSixthAndSeventhDay() {
        says("4 more on each sixth and seventh DAY (DAY modulo 7 is 5 or 6): 0 .. 7");
        for (int week = 0; week < 3; week++) {
            int start = week * 7 * 1440;
            due("the fifth DAY's last", bandAt(start + 5 * 1440 - 1), 3);
            due("the sixth DAY's first", bandAt(start + 5 * 1440), 4);
            due("the sixth DAY's last", bandAt(start + 6 * 1440 - 1), 7);
            due("the seventh DAY's first", bandAt(start + 6 * 1440), 4);
            due("the seventh DAY's last", bandAt(start + 7 * 1440 - 1), 7);
            due("the eighth DAY's first", bandAt(start + 7 * 1440), 0);
            for (int band = 5; band < 8; band++) {
                int first = start + 5 * 1440 + (band - 4) * 360;
                due("ahead of it", bandAt(first - 1), band - 1);
                due("its first", bandAt(first), band);
            }
        }
    }

    // ==== I. stations and people

    private static void stations() {
        says("STATIONS 0 .. 5 lie along the coast");
        for (int s : new int[] {0, 5}) {
            LifeboatHouse x = new LifeboatHouse();
            due("station", x.station(s, 1, 0), 0);
            due("person", x.person(s, 1, 1), 0);
            due("chance", x.chance(s, 0), 0);
            due("weak", x.weak(s, 1), 8);
            due("slip", x.slip(s, 0), 1);
            due("boat", x.boat(s, 1), 0);
            due("move", x.move(0, s), s);
            due("covered", x.covered(s), 1);
            due("flank", x.flank(s), -9);
            due("turn", x.turn(s, 0), 0);
            due("personOf", x.personOf(0, 0), s);
        }
        for (int s : new int[] {-1, 6, LOW, TOP}) {
            LifeboatHouse x = new LifeboatHouse();
            x.boat(0, 1);
            due("station", x.station(s, 1, 0), -1);
            due("person", x.person(s, 1, 1), -1);
            due("chance", x.chance(s, 0), -1);
            due("weak", x.weak(s, 1), -1);
            due("slip", x.slip(s, 0), -1);
            due("boat", x.boat(s, 1), -1);
            due("move", x.move(0, s), -1);
            due("covered", x.covered(s), -1);
            due("flank", x.flank(s), -1);
            due("turn", x.turn(s, 0), -1);
            due("refused", x.count(11), 10);
        }
    }

    private static void milesOfStations() {
        says("MILES (0 .. 300; 40 times the number at first)");
        LifeboatHouse x = new LifeboatHouse();
        for (int s = 0; s < 6; s++) due("at first", x.station(s, 0, 300), 40 * s);
        for (int s = 0; s < 6; s++) due("the greatest", x.station(s, 0, 0), 300);
        for (int s = 0; s < 6; s++) due("the least", x.station(s, 0, 1), 0);
        due("below", x.station(0, 0, -1), -4);
        due("above", x.station(0, 0, 301), -6);
        due("stays", x.station(0, 0, 1), 1);
    }

    private static void people() {
        says("PEOPLE have numbers from 0 on (40 at most)");
        LifeboatHouse x = new LifeboatHouse();
        due("none yet", x.personOf(0, 0), -1);
        for (int i = 0; i < 40; i++) {
            due("its number", x.person(5, 15, 200), i);
            due("it is there", x.papers(i, 100), 200);
            due("no other yet", x.papers(i + 1, 100), -1);
        }
        due("one more", x.person(5, 15, 200), -6);
        due("as many as there were", x.count(2), 40);
        due("the last", x.personOf(39, 1), 15);
        due("none behind it", x.personOf(40, 1), -1);
        due("paged", x.page(39, true), 1);
        due("rests", x.rest(39, 1), 0);
        due("last in turn", x.turn(5, 39), 39);
        due("no more in turn", x.turn(5, 40), -9);
    }

    private static void skillsAndPapers() {
        says("-1; -4; -6 (SKILLS 0 .. 15, PAPERS 0 .. 200 DAYS; 40, too).");
        LifeboatHouse x = new LifeboatHouse();
        due("skills below", x.person(0, -1, 0), -4);
        due("the least skills", x.person(0, 0, 0), 0);
        due("the greatest skills", x.person(0, 15, 0), 1);
        due("skills above", x.person(0, 16, 0), -6);
        due("papers below", x.person(0, 0, -1), -4);
        due("the greatest papers", x.person(0, 0, 200), 2);
        due("papers above", x.person(0, 0, 201), -6);
        due("skills told", x.personOf(0, 1), 0);
        due("skills told", x.personOf(1, 1), 15);
        due("papers told", x.personOf(1, 2), 0);
        due("papers told", x.personOf(2, 2), 200);
        says("PAPERS of a PERSON hold till a DAY: till when they did. -1; -4; -6.");
        due("below", x.papers(0, -1), -4);
        due("the greatest", x.papers(0, 200), 0);
        due("above", x.papers(0, 201), -6);
        due("the least", x.papers(0, 0), 200);
        due("told", x.personOf(0, 2), 0);
    }

    private static void lastDayOfPapers() {
        says("PAPERS till a DAY (the last on which they hold)");
        for (int day : new int[] {0, 1, 7, 137}) {
            LifeboatHouse x = at(1440 * (day + 1) - 1);
            x.person(0, 1, day);
            due("its last MINUTE", x.partOf(0, 0), 512);
            x.minutes(1);
            due("the MINUTE behind", x.partOf(0, 0), 0);
            due("not in another BAND either", x.partOf(0, 7), 0);
            x.papers(0, day + 1);
            due("for a DAY more", x.partOf(0, 0), 512);
        }
    }

    private static void pages() {
        says("PAGED and CAME of each BAND (told by PAGES: 0 at first)");
        LifeboatHouse x = new LifeboatHouse();
        x.person(0, 1, 0);
        for (int what = 4; what < 20; what++) due("personOf(0, " + what + ")", x.personOf(0, what), 0);
        says("PAGED of it in that BAND. -1; -6 above 200.");
        for (int i = 1; i <= 200; i++) due("page", x.page(0, true), i);
        due("one more that came", x.page(0, true), -6);
        due("one more that did not", x.page(0, false), -6);
        due("PAGED", x.personOf(0, 4), 200);
        due("CAME", x.personOf(0, 12), 200);
        due("PART 1024 times 201 by 202", x.partOf(0, 0), 1018);
        x.minutes(360);
        due("the next BAND", x.page(0, false), 1);
        due("CAME there", x.personOf(0, 13), 0);
        x.person(0, 1, 0);
        due("another PERSON", x.page(1, false), 1);
    }

    private static void part() {
        says("1024 times (CAME and 1) by (PAGED and 2), cut");
        LifeboatHouse x = new LifeboatHouse();
        for (int i = 0; i < 3; i++) x.person(0, 1, 0);
        due("none by none", x.partOf(0, 0), 512);
        x.page(0, false);
        due("1 by 3", x.partOf(0, 0), 341);
        x.page(1, true);
        due("2 by 3", x.partOf(1, 0), 682);
        x.page(1, true);
        due("3 by 4 is whole", x.partOf(1, 0), 768);
        for (int i = 0; i < 200; i++) x.page(2, false);
        due("1 by 202", x.partOf(2, 0), 5);
        says("PART of a PERSON in a BAND. -1.");
        due("BAND 7", x.partOf(0, 7), 512);
        due("BAND 8", x.partOf(0, 8), -1);
        due("BAND -1", x.partOf(0, -1), -1);
    }

    // ==== I. crews

    /** People of station 1, each paged as often as told before it is asked for. */
    private static LifeboatHouse crew(int size, int paged, boolean came, int... skills) {
        LifeboatHouse x = new LifeboatHouse();
        x.set(0, size);
        for (int i = 0; i < skills.length; i++) {
            x.person(1, skills[i], 200);
            for (int n = 0; n < paged; n++) x.page(i, came);
        }
        return x;
    }

    private static int chanceOf(int size, int... skills) {
        return crew(size, 0, false, skills).chance(1, 0);
    }

    private static void size() {
        says("SIZE in all (2 .. 6; 4 at first)");
        due("below", at(0).set(0, 1), -4);
        due("the least", at(0).set(0, 2), 4);
        due("the greatest", at(0).set(0, 6), 4);
        due("above", at(0).set(0, 7), -6);
        LifeboatHouse x = new LifeboatHouse();
        x.person(0, 1, 9);
        x.person(0, 2, 9);
        x.person(0, 4, 9);
        due("three at first", x.chance(0, 0), 0);
        x.person(0, 4, 9);
        due("four at first", x.chance(0, 0), WHOLE / 16);
        due("two of SIZE 2", chanceOf(2, 1, 2), WHOLE / 4);
        due("one of SIZE 2", chanceOf(2, 3), 0);
        due("three of SIZE 3", chanceOf(3, 1, 2, 4), WHOLE / 8);
        due("two of SIZE 3", chanceOf(3, 1, 2), 0);
        due("five of SIZE 5", chanceOf(5, 1, 2, 4, 4, 4), WHOLE / 32);
        due("four of SIZE 5", chanceOf(5, 1, 2, 4, 4), 0);
        due("six of SIZE 6", chanceOf(6, 1, 2, 4, 4, 4, 4), WHOLE / 64);
        due("five of SIZE 6", chanceOf(6, 1, 2, 4, 4, 4), 0);
        due("all seven or six of seven", chanceOf(6, 1, 2, 4, 4, 4, 4, 4), 6 * WHOLE / 128);
    }

    private static void both() {
        says("one who has both is helm or engine, as it helps");
        due("as helm", chanceOf(2, 3, 2), WHOLE / 4);
        due("as engine", chanceOf(2, 3, 1), WHOLE / 4);
        due("one of each of two", chanceOf(2, 3, 3), WHOLE / 4);
        due("not as the two at once", chanceOf(2, 3, 4), 0);
        due("with skills of crew, too", chanceOf(2, 7, 7), WHOLE / 4);
        says("at least one helm and one engine among those who are not young, and these two are two");
        due("no engine", chanceOf(2, 1, 1, 4), 0);
        due("no helm", chanceOf(2, 2, 2, 4), 0);
        due("neither", chanceOf(2, 4, 4), 0);
        due("two helms and an engine", chanceOf(2, 1, 1, 2), 3 * WHOLE / 8);
    }

    private static void young() {
        says("young ones (with 8) count as crew only if at least two others come who are not");
        due("two others", chanceOf(3, 1, 2, 12), WHOLE / 8);
        due("one other", chanceOf(2, 3, 12), 0);
        due("one other, four young", chanceOf(2, 3, 12, 12, 12, 12), 0);
        due("a young helm is no helm", chanceOf(2, 9, 2, 4), 0);
        due("a young engine is no engine", chanceOf(2, 1, 10, 4), 0);
        due("a young one with both is neither", chanceOf(2, 11, 1, 4), 0);
        due("a young helm counts as crew", chanceOf(3, 1, 2, 9), WHOLE / 8);
        due("a young engine counts as crew", chanceOf(3, 1, 2, 10), WHOLE / 8);
        due("a young one with both counts as crew", chanceOf(3, 1, 2, 11), WHOLE / 8);
        due("SIZE 6 by four young", chanceOf(6, 1, 2, 12, 12, 12, 12), WHOLE / 64);
        due("by three young only 5", chanceOf(6, 1, 2, 12, 12, 12), 0);
    }

    private static void leftOut() {
        says("those of PART 0, and those with none of 1, 2, 4 left out");
        due("skills 0", chanceOf(3, 1, 2, 0), 0);
        due("skills 8", chanceOf(3, 1, 2, 8), 0);
        due("skills 4", chanceOf(3, 1, 2, 4), WHOLE / 8);
        LifeboatHouse x = crew(2, 0, false, 1, 2);
        x.rest(1, 1);
        due("rests", x.chance(1, 0), 0);
        x.minutes(1);
        due("rests no more", x.chance(1, 0), WHOLE / 4);
        x.papers(1, 0);
        x.minutes(1438);
        due("PAPERS hold", x.chance(1, 0), WHOLE / 4);
        x.minutes(1);
        due("PAPERS don't hold", x.chance(1, 0), 0);
        due("at another STATION", crew(2, 0, false, 1, 2).chance(0, 0), 0);
        due("nobody at all", new LifeboatHouse().chance(0, 0), 0);
    }

    /** The other numbers, told in each row, are what a row of 5 or 7 (of 1 or 3) would lead to. */
    private static void rowsOfWays() {
        says("how many not young have come (0 .. 6, more is 6)");
        int[] grown = {4, 4, 4, 4, 4, 4, 1, 2};
        due("7: 315861, 5: 0", crew(6, 1, true, grown).chance(1, 0), 315862);
        due("eight of eight count: at least 4 of 8", chanceOf(6, 4, 4, 4, 4, 4, 4, 4, 4, 1, 2), 163 * 1024);
        says("how many young ones (0 .. 6)");
        int[] youngOnes = {12, 12, 12, 12, 12, 12, 12, 12, 12, 12, 1, 2};
        due("7: 455871, 5: 455873", crew(6, 1, true, youngOnes).chance(1, 0), 455872);
        due("at least 4 of 8 young", chanceOf(6, 12, 12, 12, 12, 12, 12, 12, 12, 1, 2), 163 * 1024);
        says("helm alone, engine alone, both (each 0, 1 or 2, more is 2)");
        due("helm, 1: 245567, 3: 245564", crew(2, 1, false, 1, 1, 1, 4, 4, 4, 2).chance(1, 0), 245565);
        due("engine, 1: 245567, 3: 245564", crew(2, 1, false, 2, 2, 2, 4, 4, 4, 1).chance(1, 0), 245565);
        due("both, 1: 397470, 3: 489281", crew(6, 1, true, 3, 3, 3, 1, 4, 4, 4, 4).chance(1, 0), 489283);
        due("three helms and an engine", chanceOf(2, 1, 1, 1, 2), 7 * WHOLE / 16);
        due("three engines and a helm", chanceOf(2, 2, 2, 2, 1), 7 * WHOLE / 16);
        due("three who have both", chanceOf(2, 3, 3, 3), WHOLE / 2);
        // 2423 of the 4096 ways in which twelve people may come
        due("the greatest of each", chanceOf(6, 1, 1, 2, 2, 3, 3, 12, 12, 12, 12, 12, 12), 2423 * 256);
    }

    private static void partsAreCut() {
        says("the part v goes on as v times PART by 1024, cut, to where it comes, and as v less that to where it does not");
        // 349184, 116280, 38722, 12894 and 4293 are left when each is cut; cut once at the end it were 4294
        due("cut at each one", crew(5, 1, false, 1, 2, 4, 4, 4).chance(1, 0), 4293);
        // a part of 1 goes on no more: one each is left where none, and where one has come
        due("forty people", crew(2, 0, false, fortyWithBoth()).chance(1, 0), WHOLE - 2);
    }

    private static int[] fortyWithBoth() {
        int[] forty = new int[40];
        for (int i = 0; i < 40; i++) forty[i] = 3;
        return forty;
    }

    private static void weak() {
        says("WEAK: less than 2 to the 20 times a told share by 100, cut");
        due("as much as the share", crew(2, 0, false, 1, 2).weak(1, 25), 0);
        due("a share more", crew(2, 0, false, 1, 2).weak(1, 26), 8);
        // 335544.32 parts are 32 of 100: 341 times 984 is just as many, cut
        LifeboatHouse x = crew(2, 0, false, 1, 2);
        x.page(0, false);
        for (int i = 0; i < 24; i++) x.page(1, true);
        due("the chance", x.chance(1, 0), 335544);
        due("just the share, cut: seven others", x.weak(1, 32), 7);
        due("a share more", x.weak(1, 33), 8);
        says("How many BANDS of a STATION are WEAK by a share (0 .. 100).");
        due("below", x.weak(1, -1), -4);
        due("0: none is less", x.weak(0, 0), 0);
        due("1: an empty one is less", x.weak(0, 1), 8);
        due("100: none is sure", x.weak(1, 100), 8);
        due("100: two parts short of sure", crew(2, 0, false, fortyWithBoth()).weak(1, 100), 8);
        due("99: surely enough", crew(2, 0, false, fortyWithBoth()).weak(1, 99), 0);
        due("above", x.weak(1, 101), -6);
    }

    // ==== II. tides and slips

    /** A station 0 that needs 5 feet, with a row told: 5 feet in the open hours, 4 in all others. */
    private static LifeboatHouse tides(int minute, int... open) {
        LifeboatHouse x = at(minute);
        x.station(0, 1, 5);
        for (int h = 0; h < 25; h++) x.tide(h, 4);
        for (int h : open) x.tide(h, 5);
        return x;
    }

    private static void tideHours() {
        says("HIGH (0 .. 12 feet) of HOUR modulo 25");
        LifeboatHouse x = tides(0, 0, 24);
        for (int h = 0; h < 100; h++) due("HOUR " + h, x.slip(0, h), h % 25 == 0 || h % 25 == 24 ? 1 : 0);
        due("HOUR 3999", x.slip(0, 3999), 1);
        due("HOUR 4000", x.slip(0, 4000), 1);
        due("HOUR 3998", x.slip(0, 3998), 0);
        says("HIGH of an HOUR of the row (0 .. 24; v -1: missing): 1. -1 no such HOUR; -4; -6.");
        due("HOUR -1", x.tide(-1, 0), -1);
        due("HOUR 0", x.tide(0, 0), 1);
        due("HOUR 24", x.tide(24, 12), 1);
        due("HOUR 25", x.tide(25, 0), -1);
        due("feet -2", x.tide(0, -2), -4);
        due("feet -1", x.tide(0, -1), 1);
        due("feet 12", x.tide(0, 12), 1);
        due("feet 13", x.tide(0, 13), -6);
        says("Whether the SLIP of a STATION is open in an HOUR (0 .. 4000): 1, 0. -1; -4; -6.");
        due("HOUR -1", x.slip(0, -1), -4);
        due("HOUR 0", x.slip(0, 0), 1);
        due("HOUR 4000", x.slip(0, 4000), 1);
        due("HOUR 4001", x.slip(0, 4001), -6);
    }

    private static void tideMissing() {
        says("missing: -1, at first, counts as the least told one of the row, 0 without");
        LifeboatHouse x = new LifeboatHouse();
        x.station(0, 1, 1);
        due("none told: 0 is less than 1", x.slip(0, 7), 0);
        x.station(0, 1, 0);
        due("none told: 0 is as many as 0", x.slip(0, 7), 1);
        x.tide(3, 9);
        x.tide(4, 6);
        x.station(0, 1, 6);
        due("6 is the least told", x.slip(0, 7), 1);
        x.station(0, 1, 7);
        due("6, not 9", x.slip(0, 7), 0);
        due("told stays as told", x.slip(0, 3), 1);
        x.tide(4, -1);
        due("9 is the least told", x.slip(0, 7), 1);
        due("the one that is missing now, too", x.slip(0, 4), 1);
        x.tide(24, 0);
        due("0 told is the least", x.slip(0, 7), 0);
        x.tide(24, -1);
        due("9 is the least again", x.slip(0, 7), 1);
        x.tide(0, 6);
        due("6 in the row's first HOUR is the least", x.slip(0, 7), 0);
        x.tide(0, -1);
        x.tide(3, -1);
        x.station(0, 1, 1);
        due("none told any more: 0 is less than 1", x.slip(0, 3), 0);
        x.station(0, 1, 0);
        due("none told any more: 0 is as many as 0", x.slip(0, 3), 1);
        for (int h = 0; h < 25; h++) x.tide(h, 12);
        x.station(0, 1, 12);
        due("all told", x.slip(0, 24), 1);
        x.tide(0, 11);
        due("the least of all", x.slip(0, 0), 0);
        due("no other is missing", x.slip(0, 1), 1);
    }

    private static void needs() {
        says("A STATION's SLIP needs NEEDS feet (0 .. 12; 0 at first)");
        LifeboatHouse x = new LifeboatHouse();
        due("below", x.station(5, 1, -1), -4);
        due("above", x.station(5, 1, 13), -6);
        due("the greatest", x.station(5, 1, 12), 0);
        due("the least", x.station(5, 1, 0), 12);
        says("it is open in an HOUR with as many, or more");
        for (int feet = 0; feet <= 12; feet++) {
            x.tide(2, feet);
            x.station(5, 1, feet);
            due("as many", x.slip(5, 2), 1);
            if (feet > 0) {
                x.station(5, 1, feet - 1);
                due("more", x.slip(5, 2), 1);
            }
            if (feet < 12) {
                x.station(5, 1, feet + 1);
                due("fewer", x.slip(5, 2), 0);
            }
        }
    }

    // ==== II. boats and calls

    private static void addBoat(LifeboatHouse x, int station, int fuel, int speed) {
        int boat = x.boat(station, fuel);
        x.speed(boat, 0, speed);
    }

    private static void boats() {
        says("BOATS have numbers from 0 on (8 at most)");
        LifeboatHouse x = new LifeboatHouse();
        for (int i = 0; i < 8; i++) {
            due("none yet", x.move(i, 0), -1);
            due("its number", x.boat(5, 20), i);
            due("it is there", x.move(i, 4), 5);
        }
        due("one more", x.boat(5, 20), -6);
        due("as many as there were", x.count(3), 8);
        due("none behind the last", x.speed(8, 0, 1), -1);
        says("FUEL (hours of running: 1 .. 20)");
        due("below", at(0).boat(0, 0), -4);
        due("the least", at(0).boat(0, 1), 0);
        due("the greatest", at(0).boat(0, 20), 0);
        due("above", at(0).boat(0, 21), -6);
    }

    private static void speeds() {
        says("a row of SPEEDS by SEA 0 .. 4 (miles an hour, 0 .. 30: 0 can't)");
        LifeboatHouse x = new LifeboatHouse();
        x.boat(0, 20);
        due("SEA -1", x.speed(0, -1, 1), -1);
        for (int sea = 0; sea < 5; sea++) due("0 at first", x.speed(0, sea, 10 + sea), 0);
        for (int sea = 0; sea < 5; sea++) due("a row of its own", x.speed(0, sea, 0), 10 + sea);
        due("SEA 5", x.speed(0, 5, 1), -1);
        due("below", x.speed(0, 4, -1), -4);
        due("above", x.speed(0, 4, 31), -6);
        due("the greatest", x.speed(0, 4, 30), 0);
        due("the least", x.speed(0, 4, 0), 30);
        x.call(0, 0, 4);
        due("0 can't, not even no way at all", x.reach(0, 0, 2), 0);
        x.speed(0, 4, 1);
        due("1 can", x.reach(0, 0, 2), 1);
        x.call(0, 0, 3);
        due("not in another SEA", x.reach(0, 1, 2), 0);
    }

    private static void calls() {
        says("A CALL has numbers from 0 on (20 at most)");
        LifeboatHouse x = new LifeboatHouse();
        for (int i = 0; i < 20; i++) {
            due("none yet", x.first(i), -1);
            due("its number", x.call(300, 60, 4), i);
            due("it is there", x.first(i), -9);
        }
        due("one more", x.call(0, 0, 0), -6);
        due("as many as there were", x.count(5), 20);
        due("the last two", x.two(18, 19, 0), -9);
        due("none behind the last", x.two(19, 20, 0), -1);
        says("OUT (0 .. 60 miles from the coast), SEA (0 .. 4)");
        due("MILES -1", at(0).call(-1, 0, 0), -4);
        due("MILES 0", at(0).call(0, 0, 0), 0);
        due("MILES 300", at(0).call(300, 0, 0), 0);
        due("MILES 301", at(0).call(301, 0, 0), -6);
        due("OUT -1", at(0).call(0, -1, 0), -4);
        due("OUT 60", at(0).call(0, 60, 0), 0);
        due("OUT 61", at(0).call(0, 61, 0), -6);
        due("SEA -1", at(0).call(0, 0, -1), -1);
        due("SEA 4", at(0).call(0, 0, 4), 0);
        due("SEA 5", at(0).call(0, 0, 5), -1);
    }

    private static void gather() {
        says("GATHER (5 .. 30 minutes; 9 at first) from now");
        LifeboatHouse x = new LifeboatHouse();
        addBoat(x, 0, 20, 30);
        x.call(0, 0, 0);
        due("at first", x.reach(0, 0, 0), 9);
        due("below", x.set(1, 4), -4);
        due("above", x.set(1, 31), -6);
        due("the greatest", x.set(1, 30), 9);
        due("the greatest", x.reach(0, 0, 0), 30);
        due("the least", x.set(1, 5), 30);
        due("the least", x.reach(0, 0, 0), 5);
        x.minutes(100);
        due("from now", x.reach(0, 0, 0), 105);
        says("or from when it is not AWAY any more, if that is later");
        due("HOME", x.send(0, 0, 7, false), 112);
        due("later than now", x.reach(0, 0, 0), 117);
        x.minutes(11);
        due("a MINUTE later than now", x.reach(0, 0, 0), 117);
        x.minutes(1);
        due("just now", x.reach(0, 0, 0), 117);
        x.minutes(1);
        due("a MINUTE ago", x.reach(0, 0, 0), 118);
    }

    private static int launchAt(LifeboatHouse x) {
        addBoat(x, 0, 20, 30);
        x.call(0, 0, 0);
        due("REACHED at once", x.reach(0, 0, 1), x.reach(0, 0, 0));
        return x.reach(0, 0, 0);
    }

    private static void launch() {
        says("by whole HOURS: at that MINUTE, or at the first MINUTE of the next HOUR that is open");
        due("the last MINUTE of an open HOUR", launchAt(tides(50, 0)), 59);
        due("the MINUTE behind it", launchAt(tides(51, 0)), 25 * 60);
        due("the last MINUTE of a closed HOUR", launchAt(tides(50, 1)), 60);
        due("the first MINUTE of an open HOUR", launchAt(tides(51, 1)), 60);
        due("the second MINUTE of an open HOUR", launchAt(tides(52, 1)), 61);
        due("the HOUR behind the next", launchAt(tides(50, 2)), 120);
        due("of two the next", launchAt(tides(0, 3, 2)), 120);
        due("open now counts, though now is too early", launchAt(tides(58, 0, 2)), 120);
        says("HIGH (0 .. 12 feet) of HOUR modulo 25");
        due("from the row's last HOUR to its first", launchAt(tides(24 * 60, 0)), 25 * 60);
        due("in the row's last HOUR", launchAt(tides(24 * 60, 24)), 24 * 60 + 9);
        due("from the row's first HOUR to its last", launchAt(tides(25 * 60, 24)), 49 * 60);
        due("HOUR 24 is not HOUR 0", launchAt(tides(23 * 60, 0)), 25 * 60);
        says("within 48 HOURS, else never");
        due("24 HOURS ahead", launchAt(tides(51, 0)), 25 * 60);
        LifeboatHouse x = tides(0);
        due("never", launchAt(x), -9);
        due("never, yet it CAN", x.reach(0, 0, 2), 1);
        due("never is not FIRST", x.first(0), -9);
        due("never is not sent", x.send(0, 0, 0, false), -3);
        x.station(0, 1, 4);
        due("a foot less", x.reach(0, 0, 0), 9);
    }

    private static int wayOf(int mile, int out) {
        LifeboatHouse x = new LifeboatHouse();
        // a mile takes a minute for 60 miles an hour: two minutes for 30
        addBoat(x, 1, 20, 30);
        x.call(mile, out, 0);
        return (x.reach(0, 0, 1) - 9) / 2;
    }

    private static void way() {
        says("WAY: the amount of MILES apart, and OUT");
        due("none", wayOf(40, 0), 0);
        due("one mile along", wayOf(41, 0), 1);
        due("one mile back", wayOf(39, 0), 1);
        due("out alone", wayOf(40, 60), 60);
        due("back and out", wayOf(0, 60), 100);
        due("as far as FUEL goes", wayOf(280, 60), 300);
        says("REACHED: LAUNCH and WAY times 60 by SPEED, cut up");
        LifeboatHouse x = new LifeboatHouse();
        addBoat(x, 0, 20, 7);
        for (int out = 0; out < 9; out++) x.call(0, out, 0);
        int[] minutes = {0, 9, 18, 26, 35, 43, 52, 60, 69};
        for (int out = 0; out < 9; out++) due("OUT " + out, x.reach(0, out, 1), 9 + minutes[out]);
    }

    private static int can(int fuel, int speed, int mile, int out) {
        LifeboatHouse x = new LifeboatHouse();
        addBoat(x, 0, fuel, speed);
        x.call(mile, out, 0);
        due("LAUNCH and CAN", x.reach(0, 0, 0) == 9 ? 1 : 0, x.reach(0, 0, 2));
        return x.reach(0, 0, 2);
    }

    private static void fuel() {
        says("twice WAY by SPEED, cut up, is no more than FUEL hours");
        due("no way at all", can(1, 1, 0, 0), 1);
        due("2 hours of 1", can(1, 1, 0, 1), 0);
        due("just 1 hour", can(1, 10, 0, 5), 1);
        due("12 by 10 is cut up", can(1, 10, 0, 6), 0);
        due("10 by 11 is cut up", can(1, 11, 0, 5), 1);
        due("just 20 hours", can(20, 30, 300, 0), 1);
        due("just 20 hours", can(20, 30, 240, 60), 1);
        due("a mile more", can(20, 30, 241, 60), 0);
        due("the furthest", can(20, 30, 300, 60), 0);
        due("just 20 hours of 1", can(20, 1, 10, 0), 1);
        due("22 hours of 1", can(20, 1, 11, 0), 0);
        due("SPEED 0", can(20, 0, 0, 0), 0);
    }

    private static void first() {
        says("FIRST: of BOATS that CAN the one that is there first, of several the least");
        LifeboatHouse x = new LifeboatHouse();
        x.call(20, 0, 0);
        due("no BOATS", x.first(0), -9);
        addBoat(x, 0, 20, 0);
        due("none that CAN", x.first(0), -9);
        addBoat(x, 0, 20, 20);
        due("the only one", x.first(0), 1);
        addBoat(x, 1, 20, 20);
        due("of two the least", x.first(0), 1);
        addBoat(x, 1, 20, 21);
        due("a little sooner", x.first(0), 3);
        addBoat(x, 1, 1, 30);
        due("soonest, but short of FUEL", x.first(0), 3);
        x.station(1, 1, 1);
        due("never", x.first(0), 1);
    }

    private static void two() {
        says("the two BOATS, one each, by which the later one is reached first");
        LifeboatHouse x = new LifeboatHouse();
        x.station(1, 0, 50);
        addBoat(x, 0, 20, 30);
        x.call(50, 0, 0);
        x.call(51, 0, 0);
        due("one BOAT for both", x.two(0, 1, 0), -9);
        addBoat(x, 1, 20, 15);
        // 100 and 4 minutes, or 0 and 102 minutes, which together are fewer
        due("the later one", x.two(0, 1, 0), 109);
        due("for the first", x.two(0, 1, 1), 0);
        due("for the second", x.two(0, 1, 2), 1);
        due("turned", x.two(1, 0, 0), 109);
        due("turned, for the first", x.two(1, 0, 1), 1);
        due("turned, for the second", x.two(1, 0, 2), 0);
        says("-1 (also if they are one)");
        due("one CALL", x.two(0, 0, 0), -1);
        due("one CALL", x.two(1, 1, 2), -1);
        says("-9 there are no such BOATS.");
        x.speed(1, 0, 0);
        for (int what = 0; what < 3; what++) due("no more than one CAN", x.two(0, 1, what), -9);
        x.call(0, 0, 1);
        for (int what = 0; what < 3; what++) due("none for the second", x.two(0, 2, what), -9);
        for (int what = 0; what < 3; what++) due("none for the first", x.two(2, 0, what), -9);
    }

    private static void twoTogether() {
        says("of these by which both MINUTES together are least");
        LifeboatHouse x = new LifeboatHouse();
        x.call(0, 50, 0);
        x.call(0, 10, 0);
        addBoat(x, 0, 20, 30);
        addBoat(x, 0, 20, 15);
        addBoat(x, 0, 20, 30);
        // 100 minutes to the first by 0 or 2; to the second 20 by the other of them, 40 by 1
        due("the later one", x.two(0, 1, 0), 109);
        due("for the first", x.two(0, 1, 1), 0);
        due("for the second", x.two(0, 1, 2), 2);
        x.speed(1, 0, 30);
        says("of several the first (BOAT of the first CALL, then of the second)");
        due("for the first", x.two(0, 1, 1), 0);
        due("for the second", x.two(0, 1, 2), 1);
        due("turned, for the first", x.two(1, 0, 1), 0);
        due("turned, for the second", x.two(1, 0, 2), 1);
        x.call(0, 50, 1);
        x.speed(1, 1, 30);
        x.speed(2, 1, 30);
        due("0 can not to the first", x.two(2, 1, 1), 1);
        due("then it is for the second", x.two(2, 1, 2), 0);
    }

    private static int homeAt(int speed, int way, int help, boolean tows) {
        LifeboatHouse x = new LifeboatHouse();
        addBoat(x, 0, 20, speed);
        x.call(0, way, 0);
        return x.send(0, 0, help, tows);
    }

    private static void sent() {
        says("HELP (0 .. 600 minutes)");
        due("below", homeAt(30, 0, -1, false), -4);
        due("the least", homeAt(30, 0, 0, false), 9);
        due("the greatest", homeAt(30, 0, 600, false), 609);
        due("above", homeAt(30, 0, 601, false), -6);
        says("the way back: WAY times 60 by SPEED");
        due("whole", homeAt(20, 10, 0, false), 9 + 30 + 30);
        due("cut up both ways", homeAt(7, 10, 0, false), 9 + 86 + 86);
        says("by half SPEED, cut, 1 at least, if it TOWS), cut up");
        due("half of 30", homeAt(30, 10, 0, true), 9 + 20 + 40);
        due("half of 7 is 3", homeAt(7, 10, 0, true), 9 + 86 + 200);
        due("half of 15 is 7, 86 cut up", homeAt(15, 10, 0, true), 9 + 40 + 86);
        due("half of 3 is 1", homeAt(3, 10, 0, true), 9 + 200 + 600);
        due("half of 2 is 1", homeAt(2, 10, 0, true), 9 + 300 + 600);
        due("half of 1 is 1 at least", homeAt(1, 10, 0, true), 9 + 600 + 600);
        due("no way", homeAt(1, 0, 0, true), 9);
    }

    private static void away() {
        says("AWAY till a MINUTE (0 at first)");
        LifeboatHouse x = new LifeboatHouse();
        addBoat(x, 0, 20, 30);
        x.call(0, 0, 0);
        due("not AWAY at first", x.count(4), 0);
        due("COVERED at first", x.covered(0), 1);
        due("HOME", x.send(0, 0, 11, false), 20);
        due("AWAY from now on", x.count(4), 1);
        due("not COVERED", x.covered(0), 0);
        due("not sent again", x.send(0, 0, 0, false), -3);
        x.minutes(19);
        due("AWAY a MINUTE ahead", x.count(4), 1);
        due("not COVERED a MINUTE ahead", x.covered(0), 0);
        due("not moved a MINUTE ahead", x.move(0, 1), -3);
        due("not sent a MINUTE ahead", x.send(0, 0, 0, false), -3);
        x.minutes(1);
        due("home", x.count(4), 0);
        due("COVERED", x.covered(0), 1);
        due("STATIONS", x.count(7), 1);
        due("moved", x.move(0, 0), 0);
        due("sent", x.send(0, 0, 0, false), 29);
    }

    private static void logs() {
        says("THE LOG: BOAT, CALL, LAUNCH, REACHED, HOME (40 at most)");
        LifeboatHouse x = new LifeboatHouse();
        addBoat(x, 0, 20, 30);
        x.call(0, 0, 0);
        for (int i = 0; i < 40; i++) {
            due("none yet", x.log(i, 0), -9);
            due("sent", x.send(0, 0, 1, false), 10 * (i + 1));
            due("logged", x.log(i, 4), 10 * (i + 1));
            x.minutes(10);
        }
        due("one more", x.send(0, 0, 1, false), -6);
        due("as many as there were", x.count(6), 40);
        due("not AWAY", x.count(4), 0);
        due("none behind the last", x.log(40, 0), -9);
        int[] last = {0, 0, 399, 399, 400};
        for (int what = 0; what < 5; what++) due("the last", x.log(39, what), last[what]);
        due("what -1", x.log(39, -1), -2);
        due("what 5", x.log(39, 5), -2);
    }

    private static void logStays() {
        says("THE LOG: BOAT, CALL, LAUNCH, REACHED, HOME (40 at most)");
        LifeboatHouse x = new LifeboatHouse();
        addBoat(x, 0, 20, 30);
        x.call(10, 0, 0);
        x.send(0, 0, 0, false);
        x.speed(0, 0, 1);
        x.station(0, 0, 200);
        x.set(1, 30);
        int[] row = {0, 0, 9, 29, 49};
        for (int what = 0; what < 5; what++) due("log", x.log(0, what), row[what]);
        x.minutes(48);
        due("AWAY as it was sent", x.count(4), 1);
        x.minutes(1);
        due("home as it was sent", x.count(4), 0);
    }

    // ==== II. cover

    private static LifeboatHouse coast(int... miles) {
        LifeboatHouse x = new LifeboatHouse();
        for (int s = 0; s < 6; s++) x.station(s, 0, miles[s]);
        return x;
    }

    private static void boatsAt(LifeboatHouse x, int... stations) {
        for (int s : stations) addBoat(x, s, 20, 30);
    }

    private static void flank(LifeboatHouse x, int helped, int miles, int... from) {
        due("how many are helped", x.flanks(0), helped);
        due("MILES together", x.flanks(1), miles);
        for (int s = 0; s < 6; s++) due("from where " + s, x.flank(s), from[s]);
    }

    private static void flankReach() {
        says("from one with two or more BOATS not AWAY there");
        LifeboatHouse x = coast(0, 300, 300, 300, 300, 80);
        flank(x, 0, 0, -9, -9, -9, -9, -9, -9);
        boatsAt(x, 0);
        flank(x, 0, 0, -9, -9, -9, -9, -9, -9);
        boatsAt(x, 0);
        says("no further than 80 MILES");
        flank(x, 1, 80, -9, -9, -9, -9, -9, 0);
        x.station(5, 0, 81);
        flank(x, 0, 0, -9, -9, -9, -9, -9, -9);
        x.station(5, 0, 0);
        flank(x, 1, 0, -9, -9, -9, -9, -9, 0);
        says("each leaves one there");
        x.station(4, 0, 10);
        flank(x, 1, 0, -9, -9, -9, -9, -9, 0);
        boatsAt(x, 0);
        flank(x, 2, 10, -9, -9, -9, -9, 0, 0);
        says("BOATS not AWAY there");
        x.call(0, 0, 0);
        x.send(0, 0, 0, false);
        flank(x, 1, 0, -9, -9, -9, -9, -9, 0);
        x.minutes(8);
        flank(x, 1, 0, -9, -9, -9, -9, -9, 0);
        x.minutes(1);
        flank(x, 2, 10, -9, -9, -9, -9, 0, 0);
    }

    private static void flankMost() {
        says("the most STATIONS that can be covered");
        // 2 is nearest to 1, but then 0 has none
        LifeboatHouse x = coast(0, 80, 90, 170, 300, 300);
        boatsAt(x, 1, 1, 3, 3);
        flank(x, 2, 160, 1, -9, 3, -9, -9, -9);
        x.station(1, 0, 81);
        flank(x, 1, 9, -9, -9, 1, -9, -9, -9);
        says("each to a STATION that is not");
        LifeboatHouse y = coast(0, 0, 0, 0, 0, 0);
        boatsAt(y, 0, 1, 2, 3, 4, 5, 0, 0);
        flank(y, 0, 0, -9, -9, -9, -9, -9, -9);
        says("STATIONS that are not COVERED, by numbers");
        LifeboatHouse z = coast(0, 1, 2, 3, 4, 5);
        boatsAt(z, 2, 2, 2, 2, 2, 2, 2, 2);
        flank(z, 5, 9, 2, 2, -9, 2, 2, 2);
    }

    private static void flankLeast() {
        says("of these the least MILES together");
        LifeboatHouse x = coast(100, 110, 120, 90, 300, 300);
        boatsAt(x, 2, 2, 3, 3);
        flank(x, 2, 20, 3, 2, -9, -9, -9, -9);
        LifeboatHouse y = coast(101, 100, 90, 300, 300, 300);
        boatsAt(y, 2, 2);
        flank(y, 1, 10, -9, 2, -9, -9, -9, -9);
        says("each the least STATION from which it is helped with which that goes on");
        LifeboatHouse z = coast(100, 100, 90, 110, 300, 300);
        boatsAt(z, 2, 2, 3, 3);
        flank(z, 2, 20, 2, 3, -9, -9, -9, -9);
        boatsAt(z, 2);
        flank(z, 2, 20, 2, 2, -9, -9, -9, -9);
        says("none behind all");
        LifeboatHouse w = coast(100, 100, 90, 300, 300, 300);
        boatsAt(w, 2, 2);
        flank(w, 1, 10, 2, -9, -9, -9, -9, -9);
        LifeboatHouse v = coast(0, 40, 80, 120, 160, 200);
        boatsAt(v, 1, 1, 3, 3);
        flank(v, 2, 80, 1, -9, 3, -9, -9, -9);
    }

    private static void covered() {
        says("a BOAT that is at it (as it was told, or MOVED last)");
        LifeboatHouse x = new LifeboatHouse();
        boatsAt(x, 2);
        due("as told", x.covered(2), 1);
        due("no other", x.covered(3), 0);
        due("moved", x.move(0, 3), 2);
        due("no more", x.covered(2), 0);
        due("moved last", x.covered(3), 1);
        due("STATIONS", x.count(7), 1);
        boatsAt(x, 3);
        due("two BOATS, one STATION", x.count(7), 1);
    }

    // ==== III. search, rest and training

    private static void boxes() {
        says("BOXES 0 .. 11 have WORTH (0 .. 9999 parts; 0 at first)");
        LifeboatHouse x = new LifeboatHouse();
        due("BOX -1", x.box(-1, 0), -1);
        for (int b = 0; b < 12; b++) due("0 at first", x.box(b, 9999), 0);
        for (int b = 0; b < 12; b++) due("the greatest", x.box(b, 0), 9999);
        due("BOX 12", x.box(12, 0), -1);
        due("below", x.box(11, -1), -4);
        due("above", x.box(11, 10000), -6);
        due("the least", x.box(11, 1), 0);
        says("WORTH becomes WORTH times (10 less e) by 10, cut");
        int[] left = {19, 17, 15, 13, 11, 9, 7, 5, 3, 1};
        for (int e = 0; e <= 9; e++) {
            x.box(11, 19);
            due("EYES " + e, x.look(11, e), left[e]);
            due("it stays", x.box(11, 19), left[e]);
        }
        x.box(11, 9999);
        due("the greatest by the least", x.look(11, 0), 9999);
        due("the greatest by the greatest", x.look(11, 9), 999);
        x.box(0, 1);
        due("1 is cut to nothing", x.look(0, 1), 0);
        due("of nothing nothing", x.look(0, 9), 0);
        says("EYES e (0 .. 9 tenths)");
        due("below", x.look(11, -1), -4);
        due("above", x.look(11, 10), -6);
        due("no BOX", x.look(12, 0), -1);
    }

    private static void looks() {
        says("with n LOOKS (1 .. 20) of EYES e");
        LifeboatHouse x = new LifeboatHouse();
        for (int b = 0; b < 12; b++) x.box(b, 9999);
        due("n 0", x.looks(0, 9), -4);
        due("n 1", x.looks(1, 9), 8999);
        due("n 20", x.looks(20, 9), 12 * 8999 + 8 * 899);
        due("n 21", x.looks(21, 9), -6);
        due("EYES -1", x.looks(1, -1), -4);
        due("EYES 0", x.looks(20, 0), 0);
        due("EYES 10", x.looks(1, 10), -6);
        due("the twelfth", x.lookAt(20, 9, 11), 11);
        due("the thirteenth", x.lookAt(20, 9, 12), 0);
        says("of several the least; FOUND in all");
        LifeboatHouse y = new LifeboatHouse();
        y.box(3, 19);
        y.box(4, 10);
        due("1.9 and 1 are one", y.lookAt(1, 1, 0), 3);
        y.box(2, 10);
        due("1 and 1.9 are one", y.lookAt(1, 1, 0), 2);
        y.box(5, 20);
        due("2 is more", y.lookAt(1, 1, 0), 5);
        due("2, 1, 1, 1", y.looks(4, 1), 5);
        due("nothing is found any more: BOX 0", y.lookAt(20, 1, 19), 0);
        due("at EYES 0 BOX 0", y.lookAt(20, 0, 19), 0);
    }

    private static void lookAt() {
        says("The BOX of the i-th of them (from 0 on); -9 there are not so many.");
        LifeboatHouse x = new LifeboatHouse();
        x.box(7, 100);
        due("ahead of the first", x.lookAt(1, 5, -1), -9);
        due("the first of one", x.lookAt(1, 5, 0), 7);
        due("the second of one", x.lookAt(1, 5, 1), -9);
        due("the last of 20", x.lookAt(20, 5, 19), 0);
        due("behind the last of 20", x.lookAt(20, 5, 20), -9);
        due("far behind", x.lookAt(20, 5, TOP), -9);
        due("far ahead", x.lookAt(20, 5, LOW), -9);
        due("refused", x.lookAt(20, 10, 20), -6);
        due("nothing changed", x.box(7, 0), 100);
    }

    private static void rest() {
        says("a PERSON RESTS till a MINUTE (told), ahead of it");
        LifeboatHouse x = at(100);
        x.person(0, 1, 200);
        due("0 at first", x.personOf(0, 3), 0);
        due("till when it did", x.rest(0, 102), 0);
        due("RESTS two MINUTES ahead", x.partOf(0, 0), 0);
        x.minutes(1);
        due("RESTS a MINUTE ahead", x.partOf(0, 0), 0);
        x.minutes(1);
        due("RESTS no more", x.partOf(0, 0), 512);
        due("told still", x.personOf(0, 3), 102);
        says("A PERSON RESTS till a MINUTE (not ahead of now): till when it did. -1; -4; -6.");
        due("ahead of now", x.rest(0, 101), -4);
        due("now", x.rest(0, 102), 102);
        due("behind now", x.rest(0, 103), 102);
        due("the greatest", x.rest(0, 200000), 103);
        due("above", x.rest(0, 200001), -6);
        due("cut short to now", x.rest(0, 102), 200000);
        due("RESTS no more", x.partOf(0, 0), 512);
        LifeboatHouse y = at(200000);
        y.person(0, 1, 200);
        due("at the last MINUTE", y.rest(0, 200000), 0);
        due("a MINUTE ahead of it", y.rest(0, 199999), -4);
    }

    private static void turns() {
        says("PEOPLE of a STATION by the DAYS till which PAPERS hold, of one DAY by numbers");
        LifeboatHouse x = new LifeboatHouse();
        due("none", x.turn(0, 0), -9);
        int[] days = {5, 4, 5, 0, 200, 4};
        for (int d : days) x.person(0, 8, d);
        x.person(1, 1, 1);
        int[] row = {3, 1, 5, 0, 2, 4};
        for (int i = 0; i < 6; i++) due("turn " + i, x.turn(0, i), row[i]);
        due("behind the last", x.turn(0, 6), -9);
        due("ahead of the first", x.turn(0, -1), -9);
        due("far behind", x.turn(0, TOP), -9);
        due("far ahead", x.turn(0, LOW), -9);
        due("of another STATION", x.turn(1, 0), 6);
        due("only one there", x.turn(1, 1), -9);
        x.papers(0, 4);
        due("by numbers, the first of DAY 4", x.turn(0, 1), 0);
        x.rest(3, 100);
        x.minutes(1440 * 6);
        due("one who RESTS or whose PAPERS lapsed has its turn", x.turn(0, 0), 3);
    }

    // ==== what is told

    private static void personOf() {
        says("4 + b PAGED of BAND b, 12 + b CAME of it. -1; -2.");
        LifeboatHouse x = at(7 * 1440 - 1);
        x.person(5, 15, 200);
        x.page(0, true);
        x.page(0, false);
        for (int what = 4; what < 20; what++) {
            due("personOf(0, " + what + ")", x.personOf(0, what), what == 11 ? 2 : what == 19 ? 1 : 0);
        }
        due("what -1", x.personOf(0, -1), -2);
        due("what 20", x.personOf(0, 20), -2);
        x.minutes(1);
        x.page(0, true);
        due("PAGED of BAND 0", x.personOf(0, 4), 1);
        due("CAME of BAND 0", x.personOf(0, 12), 1);
    }

    private static void count() {
        says("11 .. 16 REFUSALS -1 .. -6. -9 for another what.");
        LifeboatHouse x = new LifeboatHouse();
        for (int what : new int[] {LOW, -1, 8, 10, 17, TOP}) due("count(" + what + ")", x.count(what), -9);
        for (int what = 11; what <= 16; what++) due("none yet", x.count(what), 0);
        x.boat(0, 1);
        x.call(0, 0, 0);
        for (int i = 0; i < 6; i++) x.box(12, 0);
        for (int i = 0; i < 5; i++) x.log(0, 5);
        for (int i = 0; i < 4; i++) x.send(0, 0, 0, false);
        for (int i = 0; i < 3; i++) x.minutes(0);
        for (int i = 0; i < 2; i++) x.box(0, 10000);
        int[] many = {6, 5, 4, 3, 0, 2};
        for (int i = 0; i < 6; i++) due("count(" + (11 + i) + ")", x.count(11 + i), many[i]);
        due("of another object none", new LifeboatHouse().count(11), 0);
    }

    private static void refusalsInEachCall() {
        says("-1 NOBODY: no such STATION, PERSON, BAND, BOAT, CALL, BOX, SEA.");
        LifeboatHouse x = new LifeboatHouse();
        x.speed(9, 9, 99);
        x.reach(9, 9, 9);
        x.two(9, 9, 9);
        x.send(9, 9, 999, true);
        x.partOf(9, 9);
        due("NOBODY", x.count(11), 5);
        for (int what = 12; what <= 16; what++) due("no other", x.count(what), 0);
    }

    public static void main(String[] args) throws IOException {
        document = Files.readString(Path.of("../shared/DOC.md")).replaceAll("\\s+", " ");
        minutes();
        lastMinute();
        bands();
        bandsOfSixthAndSeventhDay();
        stations();
        milesOfStations();
        people();
        skillsAndPapers();
        lastDayOfPapers();
        pages();
        part();
        size();
        both();
        young();
        leftOut();
        rowsOfWays();
        partsAreCut();
        weak();
        tideHours();
        tideMissing();
        needs();
        boats();
        speeds();
        calls();
        gather();
        launch();
        way();
        fuel();
        first();
        two();
        twoTogether();
        sent();
        away();
        logs();
        logStays();
        flankReach();
        flankMost();
        flankLeast();
        covered();
        boxes();
        looks();
        lookAt();
        rest();
        turns();
        personOf();
        count();
        refusalsInEachCall();
        System.out.println(wrong == 0 ? SENTENCES.size() + " sentences hold" : wrong + " answers are not as due");
        if (wrong != 0) System.exit(1);
    }
}
