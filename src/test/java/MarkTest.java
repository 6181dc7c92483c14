/** Promises 60 and 61: MARKS. */
public final class MarkTest {
    private static final Check CHECK = new Check();
    private static final String ROW = "foot 3; calm 1; odds 5; house a wide 9; house b wide 9; person p in a temper 30 hears 0; person r in b temper 0;";

    public static void main(String[] args) {
        counts();
        takenBack();
        nested();
        acrossStreets();
        everything();
        notTakenBack();
        CHECK.finish();
    }

    private static void counts() {
        FootQuarrel q = new FootQuarrel();
        CHECK.refused(q, "undo(), none", q.undo(), 6);
        for (int i = 1; i <= 3; i++) {
            CHECK.fine(q, "mark()", q.mark(), i);
        }
        CHECK.refused(q, "mark(), a fourth", q.mark(), 4);
        for (int i = 2; i >= 0; i--) {
            CHECK.fine(q, "undo()", q.undo(), i);
        }
        CHECK.refused(q, "undo(), none left", q.undo(), 6);
        CHECK.fine(q, "mark() again", q.mark(), 1);
    }

    private static void takenBack() {
        FootQuarrel q = Check.withStreet(ROW);
        Check.years(q, "rain; dry;");
        q.say(0, 1);
        q.sorry(0);
        q.say(0, 1);
        q.mark();
        q.say(0, 1);
        q.sorry(1);
        q.night(7);
        q.rain(true);
        q.peace(0, true);
        q.move(0, 1);
        q.change(0, 1, 3);
        q.change(0, 2, 4);
        q.change(0, 3, 9);
        q.change(0, 4, 77);
        q.rule(8);
        q.survey(0);
        Check.years(q, "stop;");
        CHECK.fine(q, "undo()", q.undo(), 0);
        int[] told = {2, 2, 2, 3, 1, 5, 0, 0, 0, 0, 0, 2, 2};
        for (int what = 0; what < told.length; what++) {
            CHECK.due("told(" + what + ")", q.told(what), told[what]);
        }
        int[] person = {0, 30, 0, 5, 0, 0, 0};
        for (int what = 0; what < person.length; what++) {
            CHECK.due("person(0, " + what + ")", q.person(0, what), person[what]);
        }
        CHECK.due("person(1, 6)", q.person(1, 6), 2);
        CHECK.due("wall(0)", q.wall(0), 14);
        CHECK.due("house(1, 3)", q.house(1, 3), 6);
        CHECK.due("quarrel(0, 6)", q.quarrel(0, 6), 0);
        CHECK.due("quarrel(1, 6)", q.quarrel(1, 6), 1);
        CHECK.fine(q, "the YEARS of then", q.live(0), 2);
    }

    private static void nested() {
        FootQuarrel q = Check.withStreet(ROW);
        q.mark();
        q.say(0, 1);
        q.mark();
        q.say(0, 1);
        q.mark();
        q.say(0, 1);
        CHECK.due("wall(0)", q.wall(0), 18);
        q.undo();
        CHECK.due("wall(0), one back", q.wall(0), 15);
        q.mark();
        q.rule(1);
        q.say(0, 1);
        CHECK.due("wall(0), another way", q.wall(0), 16);
        q.undo();
        CHECK.due("wall(0), back from it", q.wall(0), 15);
        q.undo();
        CHECK.due("wall(0), two back", q.wall(0), 12);
        q.undo();
        CHECK.due("wall(0), three back", q.wall(0), 9);
        CHECK.due("told(12)", q.told(12), 0);
    }

    private static void acrossStreets() {
        FootQuarrel q = Check.withStreet(ROW);
        Check.years(q, "say p r; rain;");
        q.say(0, 1);
        q.mark();
        Check.street(q, "house z wide 1; person y in z;");
        CHECK.due("told(0)", q.told(0), 1);
        CHECK.refused(q, "no YEARS", q.live(0), 6);
        CHECK.fine(q, "undo()", q.undo(), 0);
        CHECK.due("told(0), back", q.told(0), 2);
        CHECK.due("told(12), back", q.told(12), 1);
        CHECK.fine(q, "the YEARS, back", q.live(0), 2);
        CHECK.fine(q, "the NAMES, back", Check.years(q, "say r p; when wide b < 3; end;"), 2);
        CHECK.yearsFault(q, "say y p;", 3, 4);
        // A MARK of a new object, then a STREET.
        FootQuarrel empty = new FootQuarrel();
        empty.mark();
        Check.street(empty, ROW);
        empty.undo();
        CHECK.due("told(0) of none", empty.told(0), 0);
        CHECK.due("told(3) of none", empty.told(3), 1);
    }

    private static String all(FootQuarrel q) {
        StringBuilder all = new StringBuilder();
        for (int i = 0; i <= 12; i++) {
            all.append(q.told(i)).append(' ');
        }
        for (int house = 0; house < q.told(0); house++) {
            for (int i = 0; i < 4; i++) {
                all.append(q.house(house, i)).append(' ');
            }
        }
        for (int person = 0; person < q.told(1); person++) {
            for (int i = 0; i < 7; i++) {
                all.append(q.person(person, i)).append(' ');
            }
        }
        for (int k = 0; k < q.told(2); k++) {
            for (int i = 0; i < 7; i++) {
                all.append(q.quarrel(k, i)).append(' ');
            }
        }
        return all.toString();
    }

    /** By lives that change all there is, and by another STREET. */
    private static void everything() {
        String row = "foot 3; calm 6; odds 9; house a wide 9; house b wide 8; house c wide 7; peace b c;"
                + "person p in a temper 9 hears 8 pay 1; person r in b temper 8 hears 7 voice 6; person s in c temper 3; person t in b voice 7;";
        FootQuarrel q = Check.withStreet(row);
        Check.years(q, "loop 9; any; any; sorry; end; night 3; any; any; any; any;");
        for (int seed = 0; seed < 40; seed++) {
            q.live(seed);
            String ahead = all(q);
            q.mark();
            q.live(seed + 1);
            q.rule(seed % 9 + 1);
            q.peace(1, false);
            String between = all(q);
            q.mark();
            Check.street(q, "foot 9; calm 0; odds 0; house x wide 99; house y wide 98; house z wide 97; person w in y; person v in z temper 0;");
            q.say(0, 1);
            q.say(0, 1);
            String other = all(q);
            q.mark();
            Check.street(q, "");
            q.undo();
            CHECK.due("as the other STREET was, " + seed, all(q).equals(other), true);
            CHECK.due("SHOUTS in the other STREET: 1, then 3", q.told(12), 4);
            q.undo();
            CHECK.due("as it was between, " + seed, all(q).equals(between), true);
            q.undo();
            CHECK.due("as it was ahead, " + seed, all(q).equals(ahead), true);
        }
    }

    private static void notTakenBack() {
        FootQuarrel q = Check.withStreet(ROW);
        Check.years(q, "rain; rain; rain;");
        q.tray(0, 0, 1);
        q.mark();
        q.live(0);
        q.write(0, 0, 9);
        q.share(0);
        Check.feed(q, "foot 0;");
        q.street(7);
        Check.feed(q, "foot 7;");
        q.undo();
        CHECK.due("the TRAY", q.read(0, 0), 9);
        CHECK.due("the FRACTION", q.bottom(), 2);
        CHECK.due("fault(0)", q.fault(0), 4);
        CHECK.due("lived(0)", q.lived(0), 2);
        CHECK.fine(q, "the tape", q.street(7), 0);
        CHECK.due("told(3)", q.told(3), 7);
    }
}
