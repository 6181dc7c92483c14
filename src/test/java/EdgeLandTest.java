/** The boundary cases of land, promises 46 to 51, each sentence by itself. */
public final class EdgeLandTest {
    private static final Check CHECK = new Check();

    public static void main(String[] args) {
        widestOfNone();
        widestOfOne();
        widestFirst();
        loserNone();
        loserAboveNone();
        loserFirst();
        loudestNone();
        loudestFirst();
        shareNumbers();
        shareWithoutLand();
        shareEdges();
        shareWithoutDivisor();
        beganNumbers();
        beganNone();
        beganFirstKept();
        quarrelsAtNumbers();
        quarrelsAtCounts();
        CHECK.finish();
    }

    private static FootQuarrel two(String rules, String ofP, String ofR) {
        return Check.withStreet(rules + "house a wide 50; house b wide 50; person p in a " + ofP + "; person r in b " + ofR + ";");
    }

    /** Three HOUSES of 50; r in the middle SHOUTS at whatever p on the left or s on the right says, who hear nothing. */
    private static FootQuarrel three() {
        return Check.withStreet("house a wide 50; house b wide 50; house c wide 50; person p in a temper 0 hears 0;"
                + "person r in b temper 0 hears 9; person s in c temper 0 hears 0;");
    }

    /** widest: "(6: no HOUSES)". */
    private static void widestOfNone() {
        FootQuarrel none = new FootQuarrel();
        CHECK.refused(none, "widest() of a new object", none.widest(), 6);
        FootQuarrel gone = Check.withStreet("house a wide 99;");
        gone.street(0);
        CHECK.refused(gone, "widest() of an empty STREET", gone.widest(), 6);
    }

    private static void widestOfOne() {
        FootQuarrel flat = Check.withStreet("house a wide 0;");
        CHECK.fine(flat, "widest() of one without land", flat.widest(), 0);
        FootQuarrel one = Check.withStreet("house a wide 99;");
        CHECK.fine(one, "widest() of one", one.widest(), 0);
    }

    /** "of several the first". */
    private static void widestFirst() {
        String[] wides = {"5 5 5 5 5 5", "4 5 4 5 5 4", "0 0 0 0 0 0", "0 1 2 3 4 5", "5 4 3 2 1 0", "98 99 98 97 99 0", "0 0 0 0 0 1"};
        int[] want = {0, 1, 0, 5, 0, 1, 5};
        for (int i = 0; i < wides.length; i++) {
            StringBuilder text = new StringBuilder();
            char name = 'a';
            for (String wide : wides[i].split(" ")) {
                text.append("house ").append(name++).append(" wide ").append(wide).append(";");
            }
            FootQuarrel q = Check.withStreet(text.toString());
            CHECK.fine(q, "widest() of " + wides[i], q.widest(), want[i]);
        }
        FootQuarrel q = three();
        q.say(2, 1);
        CHECK.fine(q, "widest() behind 1 foot", q.widest(), 2);
        q.say(0, 1);
        CHECK.fine(q, "widest() of two of 51", q.widest(), 0);
    }

    /** loser: "(6: none)". */
    private static void loserNone() {
        FootQuarrel none = new FootQuarrel();
        CHECK.refused(none, "loser() of a new object", none.loser(), 6);
        FootQuarrel q = two("", "temper 30", "temper 30 hears 9");
        q.say(0, 1);
        CHECK.refused(q, "loser() without a SHOUT", q.loser(), 6);
    }

    /** "the most feet by SHOUTS in all, above 0". */
    private static void loserAboveNone() {
        FootQuarrel flat = Check.withStreet("house a wide 50; house b wide 0; person p in a temper 30 hears 0; person r in b temper 0 hears 9;");
        flat.say(0, 1);
        CHECK.refused(flat, "loser() of 0 feet", flat.loser(), 6);
        FootQuarrel one = two("foot 1;", "temper 30 hears 0", "temper 0 hears 9");
        one.say(0, 1);
        CHECK.fine(one, "loser() of 1 foot", one.loser(), 1);
        one.survey(0);
        CHECK.fine(one, "loser(), surveyed", one.loser(), 1);
        FootQuarrel given = two("foot 9;", "temper 30 hears 0", "temper 0 hears 9");
        given.say(0, 1);
        given.sorry(0);
        CHECK.fine(given, "loser(): who gave land back lost none by it", given.loser(), 1);
    }

    /** "of several the first". */
    private static void loserFirst() {
        FootQuarrel q = two("foot 3;", "temper 0 hears 9", "temper 0 hears 9");
        q.say(0, 1);
        CHECK.fine(q, "loser() of two of 9 feet", q.loser(), 0);
        q.change(0, 2, 0);
        q.rule(1);
        q.say(0, 1);
        CHECK.fine(q, "loser() of 9 and 10 feet", q.loser(), 1);
        FootQuarrel last = Check.withStreet("house a wide 5; house b wide 5; house c wide 5; house d wide 5; house e wide 5; house f wide 5;"
                + "person p in e temper 30 hears 0; person r in f temper 0 hears 9;");
        last.say(0, 1);
        CHECK.fine(last, "loser(), the last of six", last.loser(), 5);
    }

    /** loudest: "above 0 .. (6: none)". */
    private static void loudestNone() {
        FootQuarrel none = new FootQuarrel();
        CHECK.refused(none, "loudest() of a new object", none.loudest(), 6);
        FootQuarrel q = two("", "temper 30", "temper 5 hears 9");
        q.say(0, 1);
        CHECK.refused(q, "loudest() without a SHOUT", q.loudest(), 6);
        q.say(0, 1);
        CHECK.fine(q, "loudest() of one SHOUT", q.loudest(), 1);
    }

    /** "of several the first". */
    private static void loudestFirst() {
        FootQuarrel q = two("", "temper 0 hears 9", "temper 0 hears 9");
        q.say(1, 0);
        CHECK.fine(q, "loudest() of two of 3", q.loudest(), 0);
        q.change(0, 2, 0);
        q.say(0, 1);
        CHECK.fine(q, "loudest() of 3 and 4", q.loudest(), 1);
        StringBuilder text = new StringBuilder("house a wide 5; house b wide 5;");
        for (char c = 'a'; c <= 'h'; c++) {
            text.append("person p").append(c).append(c == 'h' ? " in b temper 0 hears 9;" : " in a temper 30 hears 0;");
        }
        FootQuarrel last = Check.withStreet(text.toString());
        last.say(0, 7);
        CHECK.fine(last, "loudest(), the last of eight", last.loudest(), 7);
    }

    private static void shareNumbers() {
        FootQuarrel q = two("", "", "");
        CHECK.fraction(q, "share(0)", q.share(0), 1, 2);
        for (int house : new int[] {-1, 2, 6, Integer.MAX_VALUE, Integer.MIN_VALUE}) {
            CHECK.denied(q, "share(" + house + ")", q.share(house), 1);
            CHECK.due("top()", q.top(), 1);
            CHECK.due("bottom()", q.bottom(), 2);
        }
        FootQuarrel none = new FootQuarrel();
        CHECK.denied(none, "share(0) of no HOUSES: the first STATUS that holds", none.share(0), 1);
    }

    /** share: "6: there is no land". */
    private static void shareWithoutLand() {
        FootQuarrel flat = Check.withStreet("house a wide 0; house b wide 0;");
        CHECK.denied(flat, "share(0) without land", flat.share(0), 6);
        CHECK.denied(flat, "share(1) without land", flat.share(1), 6);
        CHECK.denied(flat, "share(2) without land: the first that holds", flat.share(2), 1);
        CHECK.due("top()", flat.top(), 0);
        CHECK.due("bottom()", flat.bottom(), 1);
        FootQuarrel foot = Check.withStreet("house a wide 0; house b wide 1;");
        CHECK.fraction(foot, "share(0) of 1 foot", foot.share(0), 0, 1);
        CHECK.fraction(foot, "share(1) of 1 foot", foot.share(1), 1, 1);
    }

    /** "The FRACTION is the part of all land that is a HOUSE's", as it is now. */
    private static void shareEdges() {
        FootQuarrel most = Check.withStreet("house a wide 99; house b wide 99; house c wide 99; house d wide 99; house e wide 99; house f wide 99;");
        CHECK.fraction(most, "share(5) of 594", most.share(5), 1, 6);
        FootQuarrel q = Check.withStreet("foot 9; house a wide 10; house b wide 9; person p in a temper 30 hears 0; person r in b temper 0 hears 9;");
        CHECK.fraction(q, "share(1) ahead", q.share(1), 9, 19);
        q.say(0, 1);
        CHECK.fraction(q, "share(1) of nothing left", q.share(1), 0, 1);
        CHECK.fraction(q, "share(0) of all", q.share(0), 1, 1);
    }

    /** "without a common divisor". */
    private static void shareWithoutDivisor() {
        int[][] rows = {{6, 3, 2, 3}, {98, 98, 1, 2}, {99, 66, 3, 5}, {97, 89, 97, 186}, {4, 96, 1, 25}, {96, 4, 24, 25}, {1, 99, 1, 100}};
        for (int[] row : rows) {
            FootQuarrel q = Check.withStreet("house a wide " + row[0] + "; house b wide " + row[1] + ";");
            CHECK.fraction(q, "share(0) of " + row[0] + " and " + row[1], q.share(0), row[2], row[3]);
        }
    }

    private static void beganNumbers() {
        FootQuarrel q = three();
        q.say(0, 1);
        q.say(2, 1);
        CHECK.fine(q, "began(0)", q.began(0), 0);
        CHECK.fine(q, "began(1)", q.began(1), 2);
        for (int wall : new int[] {-1, 2, Integer.MAX_VALUE, Integer.MIN_VALUE}) {
            CHECK.refused(q, "began(" + wall + ")", q.began(wall), 1);
        }
        FootQuarrel none = new FootQuarrel();
        CHECK.refused(none, "began(0) of no WALLS: the first STATUS that holds", none.began(0), 1);
    }

    /** began: "6: none". */
    private static void beganNone() {
        FootQuarrel q = three();
        CHECK.refused(q, "began(0) without a QUARREL", q.began(0), 6);
        CHECK.refused(q, "began(1) without a QUARREL", q.began(1), 6);
        q.say(2, 1);
        CHECK.refused(q, "began(0) without a QUARREL at it", q.began(0), 6);
        CHECK.fine(q, "began(1)", q.began(1), 2);
        q.say(1, 0);
        CHECK.refused(q, "began(0): a SAY is no QUARREL", q.began(0), 6);
    }

    /** "the first QUARREL, of those kept". */
    private static void beganFirstKept() {
        FootQuarrel q = Check.withStreet("house a wide 50; house b wide 50; person p in a temper 0 hears 0; person r in b temper 0 hears 9;"
                + "person s in a temper 0 hears 0;");
        q.say(2, 1);
        for (int i = 0; i < 19; i++) {
            q.say(0, 1);
            CHECK.fine(q, "began(0), the first of " + (i + 2), q.began(0), 2);
        }
        q.say(2, 1);
        CHECK.fine(q, "began(0): the first one isn't kept", q.began(0), 0);
        for (int i = 0; i < 19; i++) {
            q.say(0, 1);
        }
        CHECK.fine(q, "began(0), the first of the latest 20", q.began(0), 2);
        q.say(0, 1);
        CHECK.fine(q, "began(0), it isn't kept either", q.began(0), 0);
    }

    private static void quarrelsAtNumbers() {
        FootQuarrel q = three();
        for (int wall : new int[] {-1, 2, Integer.MAX_VALUE, Integer.MIN_VALUE}) {
            CHECK.refused(q, "quarrelsAt(" + wall + ")", q.quarrelsAt(wall), 1);
        }
        FootQuarrel one = Check.withStreet("house a wide 1;");
        CHECK.refused(one, "quarrelsAt(0) of one HOUSE", one.quarrelsAt(0), 1);
    }

    /** "How many of the QUARRELS kept are at a WALL": none, some, all 20. */
    private static void quarrelsAtCounts() {
        FootQuarrel q = three();
        CHECK.fine(q, "quarrelsAt(0), none", q.quarrelsAt(0), 0);
        for (int i = 1; i <= 22; i++) {
            q.say(0, 1);
            CHECK.fine(q, "quarrelsAt(0) of " + i, q.quarrelsAt(0), Math.min(20, i));
            CHECK.fine(q, "quarrelsAt(1), none", q.quarrelsAt(1), 0);
        }
        q.say(2, 1);
        CHECK.fine(q, "quarrelsAt(0), one less", q.quarrelsAt(0), 19);
        CHECK.fine(q, "quarrelsAt(1), one", q.quarrelsAt(1), 1);
        q.night(9);
        CHECK.fine(q, "quarrelsAt(0) on another DAY", q.quarrelsAt(0), 19);
    }
}
