/** The boundary cases of TRAYS, each sentence of the document by itself: "TRAYS 0 to 3 ..", promises 1 to 8. */
public final class EdgeTrayTest {
    private static final Check CHECK = new Check();
    private static final long[] EDGES = {0, 1, -1, 127, 128, -128, -129, 255, 256, -256, 32767, 32768, -32768, -32769, 65535, 65536,
        2147483647L, 2147483648L, -2147483648L, -2147483649L, 4294967295L, 4294967296L, Long.MAX_VALUE, Long.MIN_VALUE};

    public static void main(String[] args) {
        constant();
        newObject();
        status();
        fraction();
        firstAndLastTray();
        missingAtFirst();
        leastAndMostNumbers();
        firstAndLastSort();
        wrapAround();
        rowOfZeros();
        refusedTrayStays();
        writePlaces();
        readMinusOne();
        readPlaces();
        pourPlaces();
        pourOfNone();
        pourToItself();
        pourAsTheyWere();
        pourSorts();
        pourOrder();
        CHECK.finish();
    }

    /** "NONE = -1: None." */
    private static void constant() {
        CHECK.due("NONE", FootQuarrel.NONE, -1);
    }

    /** "A STREET of no HOUSES, PEOPLE; .. TRAYS are MISSING; an empty tape; the FRACTION 0 by 1; STATUS 0." */
    private static void newObject() {
        CHECK.due("STATUS at first", new FootQuarrel().status(), 0);
        CHECK.due("top() at first", new FootQuarrel().top(), 0);
        CHECK.due("bottom() at first", new FootQuarrel().bottom(), 1);
        FootQuarrel q = new FootQuarrel();
        int[] told = {0, 0, 0, 1, 2, 4, 0, 0, 0, 0, 0, 0, 0};
        for (int what = 0; what < told.length; what++) {
            CHECK.fine(q, "told(" + what + ") at first", q.told(what), told[what]);
        }
        CHECK.refused(q, "house(0, 0) of no HOUSES", q.house(0, 0), 1);
        CHECK.refused(q, "wall(0) of no HOUSES", q.wall(0), 1);
        CHECK.refused(q, "person(0, 0) of no PEOPLE", q.person(0, 0), 1);
        CHECK.refused(q, "quarrel(0, 0) of none", q.quarrel(0, 0), 1);
        CHECK.refused(q, "live(0) without YEARS", q.live(0), 6);
        CHECK.refused(q, "undo() without MARKS", q.undo(), 6);
        CHECK.due("the first feed()", q.feed(0, 0, 0, 0, 0), 20);
        FootQuarrel empty = new FootQuarrel();
        CHECK.refused(empty, "street(1) of an empty tape", empty.street(1), 1);
    }

    /** "STATUS of the latest call that has one"; "status(), top(), bottom(), feed(), fault() have none". */
    private static void status() {
        FootQuarrel q = new FootQuarrel();
        q.read(0, 0);
        CHECK.due("STATUS 2", q.status(), 2);
        CHECK.due("status() has none", q.status(), 2);
        q.top();
        CHECK.due("top() has none", q.status(), 2);
        q.bottom();
        CHECK.due("bottom() has none", q.status(), 2);
        q.feed(0, 0, 0, 0, 0);
        CHECK.due("feed() has none", q.status(), 2);
        q.fault(0);
        CHECK.due("fault(0) has none", q.status(), 2);
        q.fault(9);
        CHECK.due("fault(9) has none", q.status(), 2);
        q.read(4, 0);
        CHECK.due("STATUS 1", q.status(), 1);
        q.told(0);
        CHECK.due("STATUS 0", q.status(), 0);
        for (int i = 0; i < 44; i++) {
            q.feed(0, 0, 0, 0, 0);
        }
        CHECK.due("feed() beyond 900", q.feed(0, 0, 0, 0, 0), -1);
        CHECK.due("STATUS behind it", q.status(), 0);
    }

    /** "The top of the FRACTION told latest." "Its bottom, above 0." "0 is 0 by 1." */
    private static void fraction() {
        FootQuarrel q = Check.withStreet("odds 8; house a wide 0; house b wide 99;");
        CHECK.fraction(q, "share(0), 0 of 99", q.share(0), 0, 1);
        CHECK.fraction(q, "share(1), 99 of 99", q.share(1), 1, 1);
        CHECK.fraction(q, "wet(12, 12)", q.wet(12, 12), 1, 4096);
        q.house(0, 0);
        q.share(2);
        CHECK.due("top() of the one told latest", q.top(), 1);
        CHECK.due("bottom() of the one told latest", q.bottom(), 4096);
    }

    /** "TRAYS 0 to 3". */
    private static void firstAndLastTray() {
        FootQuarrel q = new FootQuarrel();
        for (int tray = 0; tray <= 3; tray++) {
            CHECK.granted(q, "tray(" + tray + ", 0, 2)", q.tray(tray, 0, 2));
            CHECK.granted(q, "write(" + tray + ", 1, 9)", q.write(tray, 1, tray + 5));
        }
        CHECK.denied(q, "tray(-1, 0, 1)", q.tray(-1, 0, 1), 1);
        CHECK.denied(q, "tray(4, 0, 1)", q.tray(4, 0, 1), 1);
        CHECK.denied(q, "write(-1, 0, 1)", q.write(-1, 0, 1), 1);
        CHECK.denied(q, "write(4, 0, 1)", q.write(4, 0, 1), 1);
        CHECK.refused(q, "read(-1, 0)", q.read(-1, 0), 1);
        CHECK.refused(q, "read(4, 0)", q.read(4, 0), 1);
        for (int tray = 0; tray <= 3; tray++) {
            CHECK.fine(q, "read(" + tray + ", 1)", q.read(tray, 1), tray + 5);
        }
    }

    /** "TRAYS .. are MISSING at first". */
    private static void missingAtFirst() {
        for (int tray = 0; tray <= 3; tray++) {
            FootQuarrel q = new FootQuarrel();
            CHECK.refused(q, "read of TRAY " + tray, q.read(tray, 0), 2);
            CHECK.denied(q, "write to TRAY " + tray, q.write(tray, 0, 1), 2);
            CHECK.denied(q, "pour of TRAY " + tray, q.pour(tray, 0, tray, 0, 0), 2);
            CHECK.refused(q, "ways of TRAY " + tray, q.ways(tray, 1), 2);
            CHECK.refused(q, "copyWalls to TRAY " + tray, q.copyWalls(tray), 2);
            q.tray(tray, 0, 0);
            CHECK.refused(q, "read of no numbers, not MISSING", q.read(tray, 0), 3);
            CHECK.refused(q, "read of the next TRAY", q.read((tray + 1) % 4, 0), 2);
        }
    }

    /** "rows of 0 to 60 numbers". */
    private static void leastAndMostNumbers() {
        FootQuarrel q = new FootQuarrel();
        CHECK.granted(q, "tray(0, 3, 0)", q.tray(0, 3, 0));
        CHECK.refused(q, "read(0, 0) of none", q.read(0, 0), 3);
        CHECK.granted(q, "tray(1, 3, 1)", q.tray(1, 3, 1));
        CHECK.fine(q, "read(1, 0) of one", q.read(1, 0), 0);
        CHECK.refused(q, "read(1, 1) of one", q.read(1, 1), 3);
        CHECK.granted(q, "tray(2, 3, 60)", q.tray(2, 3, 60));
        for (int place = 0; place < 60; place++) {
            CHECK.granted(q, "write(2, " + place + ", v)", q.write(2, place, 1000 - place));
        }
        for (int place = 0; place < 60; place++) {
            CHECK.fine(q, "read(2, " + place + ")", q.read(2, place), 1000 - place);
        }
        CHECK.refused(q, "read(2, 60) of 60", q.read(2, 60), 3);
        CHECK.denied(q, "tray(3, 3, 61)", q.tray(3, 3, 61), 1);
        CHECK.denied(q, "tray(3, 3, -1)", q.tray(3, 3, -1), 1);
        CHECK.refused(q, "TRAY 3 is MISSING still", q.read(3, 0), 2);
    }

    /** "8 bits (sort 0), 16 (1), 32 (2) or 64 (3)". */
    private static void firstAndLastSort() {
        FootQuarrel q = new FootQuarrel();
        for (int sort = 0; sort <= 3; sort++) {
            CHECK.granted(q, "tray(0, " + sort + ", 1)", q.tray(0, sort, 1));
        }
        CHECK.denied(q, "tray(1, -1, 1)", q.tray(1, -1, 1), 1);
        CHECK.denied(q, "tray(1, 4, 1)", q.tray(1, 4, 1), 1);
        CHECK.refused(q, "TRAY 1 is MISSING still", q.read(1, 0), 2);
    }

    /** "A number comes to a place of a TRAY, cut to its sort". */
    private static void wrapAround() {
        for (int sort = 0; sort <= 3; sort++) {
            FootQuarrel q = new FootQuarrel();
            q.tray(sort, sort, 3);
            int cut = 64 - (8 << sort);
            for (long number : EDGES) {
                CHECK.granted(q, "write of " + number, q.write(sort, 1, number));
                CHECK.fine(q, "sort " + sort + " of " + number, q.read(sort, 1), number << cut >> cut);
            }
            CHECK.fine(q, "the place ahead", q.read(sort, 0), 0);
            CHECK.fine(q, "the place behind", q.read(sort, 2), 0);
        }
        FootQuarrel q = new FootQuarrel();
        q.tray(0, 0, 1);
        q.write(0, 0, 128);
        CHECK.due("128 of 8 bits", q.read(0, 0), -128);
        q.write(0, 0, -129);
        CHECK.due("-129 of 8 bits", q.read(0, 0), 127);
        q.write(0, 0, 256);
        CHECK.due("256 of 8 bits", q.read(0, 0), 0);
        q.tray(0, 1, 1);
        q.write(0, 0, 32768);
        CHECK.due("32,768 of 16 bits", q.read(0, 0), -32768);
        q.tray(0, 2, 1);
        q.write(0, 0, 4294967295L);
        CHECK.due("4,294,967,295 of 32 bits", q.read(0, 0), -1);
        CHECK.due("STATUS of it", q.status(), 0);
    }

    /** "A TRAY is a row of so many 0s": also one that was a row ahead, a longer and a shorter one. */
    private static void rowOfZeros() {
        FootQuarrel q = new FootQuarrel();
        int[] sizes = {5, 5, 3, 5, 60, 1, 60, 0, 5};
        for (int size : sizes) {
            CHECK.granted(q, "tray of " + size, q.tray(2, 2, size));
            for (int place = 0; place < Math.min(size, 6); place++) {
                CHECK.fine(q, "a new row of " + size + " at " + place, q.read(2, place), 0);
                q.write(2, place, 77);
            }
            CHECK.refused(q, "behind a row of " + size, q.read(2, size), 3);
        }
    }

    /** A refused tray() leaves the row that there is, with its sort. */
    private static void refusedTrayStays() {
        FootQuarrel q = new FootQuarrel();
        q.tray(0, 1, 2);
        q.write(0, 1, 300);
        CHECK.denied(q, "tray(0, 0, 61)", q.tray(0, 0, 61), 1);
        CHECK.denied(q, "tray(0, 4, 1)", q.tray(0, 4, 1), 1);
        CHECK.denied(q, "tray(0, 0, -1)", q.tray(0, 0, -1), 1);
        CHECK.fine(q, "the number", q.read(0, 1), 300);
        CHECK.refused(q, "the many", q.read(0, 2), 3);
        q.write(0, 0, 40000);
        CHECK.fine(q, "the sort", q.read(0, 0), 40000 - 65536);
    }

    /** write: "(1, 2, 3)". */
    private static void writePlaces() {
        FootQuarrel q = new FootQuarrel();
        q.tray(1, 3, 4);
        CHECK.granted(q, "write to the first place", q.write(1, 0, 10));
        CHECK.granted(q, "write to the last place", q.write(1, 3, 13));
        CHECK.denied(q, "write ahead of the first place", q.write(1, -1, 9), 3);
        CHECK.denied(q, "write behind the last place", q.write(1, 4, 9), 3);
        CHECK.denied(q, "write to the farthest place", q.write(1, Integer.MAX_VALUE, 9), 3);
        CHECK.denied(q, "write to a MISSING TRAY", q.write(0, 0, 9), 2);
        long[] want = {10, 0, 0, 13};
        for (int place = 0; place < 4; place++) {
            CHECK.fine(q, "read(1, " + place + ")", q.read(1, place), want[place]);
        }
    }

    /** "STATUS tells NONE from -1." */
    private static void readMinusOne() {
        FootQuarrel q = new FootQuarrel();
        q.tray(0, 0, 1);
        q.write(0, 0, -1);
        CHECK.fine(q, "read of -1", q.read(0, 0), -1);
        CHECK.refused(q, "read of none", q.read(0, 1), 3);
        CHECK.fine(q, "read of -1 again", q.read(0, 0), -1);
    }

    /** read: "(1, 2, 3)". */
    private static void readPlaces() {
        FootQuarrel q = new FootQuarrel();
        q.tray(3, 0, 60);
        CHECK.fine(q, "the first place", q.read(3, 0), 0);
        CHECK.fine(q, "the last place", q.read(3, 59), 0);
        CHECK.refused(q, "ahead of the first place", q.read(3, -1), 3);
        CHECK.refused(q, "behind the last place", q.read(3, 60), 3);
        CHECK.refused(q, "far ahead", q.read(3, Integer.MIN_VALUE), 3);
        CHECK.refused(q, "far behind", q.read(3, Integer.MAX_VALUE), 3);
    }

    private static FootQuarrel twoRows() {
        FootQuarrel q = new FootQuarrel();
        q.tray(0, 2, 4);
        q.tray(1, 2, 6);
        for (int i = 0; i < 4; i++) {
            q.write(0, i, 10 + i);
        }
        for (int i = 0; i < 6; i++) {
            q.write(1, i, 20 + i);
        }
        return q;
    }

    private static void row(FootQuarrel q, String call, int tray, long... want) {
        for (int place = 0; place < want.length; place++) {
            CHECK.due("place " + place + " of TRAY " + tray + " behind " + call, q.read(tray, place), want[place]);
        }
        CHECK.refused(q, "behind TRAY " + tray, q.read(tray, want.length), 3);
    }

    /** "So many numbers of a TRAY, from a place on, come to another one's .. place on" (3: a place that it has not). */
    private static void pourPlaces() {
        FootQuarrel q = twoRows();
        CHECK.granted(q, "all of TRAY 0 to the end", q.pour(0, 0, 1, 2, 4));
        row(q, "all to the end", 1, 20, 21, 10, 11, 12, 13);
        row(q, "all to the end", 0, 10, 11, 12, 13);
        CHECK.denied(q, "one place too far", q.pour(0, 0, 1, 3, 4), 3);
        CHECK.denied(q, "one number too many", q.pour(0, 0, 1, 0, 5), 3);
        CHECK.denied(q, "one number too many from place 1", q.pour(0, 1, 1, 0, 4), 3);
        CHECK.denied(q, "more than the other one has", q.pour(1, 0, 0, 0, 5), 3);
        CHECK.denied(q, "from behind", q.pour(0, 4, 1, 0, 1), 3);
        CHECK.denied(q, "to behind", q.pour(0, 0, 1, 6, 1), 3);
        CHECK.denied(q, "so many that the sum wraps", q.pour(0, 1, 1, 1, Integer.MAX_VALUE), 3);
        CHECK.denied(q, "a place so far that the sum wraps", q.pour(0, Integer.MAX_VALUE, 1, Integer.MAX_VALUE, 1), 3);
        row(q, "what was refused", 1, 20, 21, 10, 11, 12, 13);
        CHECK.granted(q, "the last of one to the first of the other", q.pour(1, 5, 0, 0, 1));
        row(q, "one number", 0, 13, 11, 12, 13);
        CHECK.granted(q, "the first of one to the last of the other", q.pour(1, 0, 0, 3, 1));
        row(q, "one more", 0, 13, 11, 12, 20);
    }

    /** No numbers are poured. */
    private static void pourOfNone() {
        FootQuarrel q = twoRows();
        CHECK.granted(q, "none from the first places", q.pour(0, 0, 1, 0, 0));
        CHECK.granted(q, "none from the last places", q.pour(0, 3, 1, 5, 0));
        row(q, "none", 1, 20, 21, 22, 23, 24, 25);
        row(q, "none", 0, 10, 11, 12, 13);
        CHECK.denied(q, "none from far behind", q.pour(0, 60, 1, 0, 0), 3);
        CHECK.denied(q, "none to far behind", q.pour(0, 0, 1, 60, 0), 3);
        FootQuarrel unlike = pourSort(0, 1);
        CHECK.denied(unlike, "none to another sort", unlike.pour(0, 0, 1, 0, 0), 8);
    }

    private static FootQuarrel pourSort(int one, int other) {
        FootQuarrel q = new FootQuarrel();
        q.tray(0, one, 2);
        q.tray(1, other, 2);
        return q;
    }

    /** "(or its own) place on". */
    private static void pourToItself() {
        FootQuarrel q = twoRows();
        CHECK.granted(q, "all to where it is", q.pour(1, 0, 1, 0, 6));
        row(q, "all to where it is", 1, 20, 21, 22, 23, 24, 25);
        CHECK.granted(q, "a half behind itself", q.pour(1, 0, 1, 3, 3));
        row(q, "a half behind itself", 1, 20, 21, 22, 20, 21, 22);
    }

    /** "as they were": also where the two parts of one TRAY share places. */
    private static void pourAsTheyWere() {
        FootQuarrel q = twoRows();
        CHECK.granted(q, "one place on", q.pour(1, 0, 1, 1, 5));
        row(q, "one place on", 1, 20, 20, 21, 22, 23, 24);
        CHECK.granted(q, "two places back", q.pour(1, 2, 1, 0, 4));
        row(q, "two places back", 1, 21, 22, 23, 24, 23, 24);
        FootQuarrel wide = new FootQuarrel();
        wide.tray(0, 3, 60);
        for (int i = 0; i < 60; i++) {
            wide.write(0, i, Long.MIN_VALUE + i);
        }
        CHECK.granted(wide, "59 numbers one on", wide.pour(0, 0, 0, 1, 59));
        CHECK.due("the first", wide.read(0, 0), Long.MIN_VALUE);
        for (int i = 1; i < 60; i++) {
            CHECK.due("place " + i, wide.read(0, i), Long.MIN_VALUE + i - 1);
        }
    }

    /** "8 TRAYS are of unlike sorts": each sort with each. */
    private static void pourSorts() {
        for (int one = 0; one <= 3; one++) {
            for (int other = 0; other <= 3; other++) {
                FootQuarrel q = pourSort(one, other);
                q.write(0, 0, 5);
                q.write(1, 0, 6);
                boolean poured = q.pour(0, 0, 1, 0, 1);
                if (one == other) {
                    CHECK.granted(q, "pour of sort " + one, poured);
                } else {
                    CHECK.denied(q, "pour of sort " + one + " to " + other, poured, 8);
                }
                CHECK.due("what came", q.read(1, 0), one == other ? 5 : 6);
            }
        }
    }

    /** "(1: below 0, too; 2; 8; 3; asked in this order)". */
    private static void pourOrder() {
        FootQuarrel q = new FootQuarrel();
        q.tray(0, 1, 5);
        q.tray(1, 2, 5);
        q.tray(2, 1, 5);
        CHECK.denied(q, "1 ahead of 2: no TRAY from", q.pour(4, 0, 3, 0, 1), 1);
        CHECK.denied(q, "1 ahead of 2: no TRAY to", q.pour(3, 0, 4, 0, 1), 1);
        CHECK.denied(q, "1 ahead of 2: a place below 0", q.pour(3, -1, 0, 0, 1), 1);
        CHECK.denied(q, "1 ahead of 2: a place to below 0", q.pour(0, 0, 3, -1, 1), 1);
        CHECK.denied(q, "1 ahead of 2: many below 0", q.pour(3, 0, 3, 0, -1), 1);
        CHECK.denied(q, "1 ahead of 8: a place below 0", q.pour(0, -1, 1, 0, 1), 1);
        CHECK.denied(q, "1 ahead of 8: many below 0", q.pour(0, 0, 1, 0, -1), 1);
        CHECK.denied(q, "1 ahead of 3: a place below 0", q.pour(0, 9, 2, -1, 1), 1);
        CHECK.denied(q, "1 ahead of 3: many below 0", q.pour(0, 9, 2, 0, -1), 1);
        CHECK.denied(q, "2 ahead of 3 from", q.pour(3, 99, 0, 99, 1), 2);
        CHECK.denied(q, "2 ahead of 3 to", q.pour(0, 99, 3, 99, 1), 2);
        CHECK.denied(q, "8 ahead of 3", q.pour(0, 99, 1, 99, 99), 8);
        CHECK.denied(q, "3 at the end", q.pour(0, 99, 2, 0, 1), 3);
        CHECK.granted(q, "none of them", q.pour(0, 0, 2, 0, 5));
    }
}
