/** The boundary cases of MARKS, promises 60 and 61, and of the 512 calls, each sentence by itself. */
public final class EdgeMarkTest {
    private static final Check CHECK = new Check();
    private static final String ROW = "foot 4; calm 3; odds 6; house a wide 20; house b wide 20; house c wide 20;"
            + "person p in a temper 30 hears 0 voice 5; person r in b temper 0 hears 9; person s in c temper 30 hears 0;";

    public static void main(String[] args) {
        threeAtMost();
        fourthChangesNothing();
        undoWithout();
        undoGivesRoom();
        latestFirst();
        goneThen();
        yearsAreKept();
        emptyStreetIsKept();
        otherStreet();
        othersBetween();
        quarrelsAreKept();
        everyDeedIsTakenBack();
        whatIsNoStreetStays();
        calls();
        dearCalls();
        CHECK.finish();
    }

    private static FootQuarrel row() {
        return Check.withStreet(ROW);
    }

    /** "MARKS, at most 3"; mark: "how many there are (4)". */
    private static void threeAtMost() {
        FootQuarrel q = row();
        for (int i = 1; i <= 3; i++) {
            CHECK.fine(q, "mark " + i, q.mark(), i);
        }
        CHECK.refused(q, "mark 4", q.mark(), 4);
        CHECK.refused(q, "mark 4 again", q.mark(), 4);
        for (int i = 2; i >= 0; i--) {
            CHECK.fine(q, "undo to " + i, q.undo(), i);
        }
    }

    private static void fourthChangesNothing() {
        FootQuarrel q = row();
        for (int foot = 1; foot <= 3; foot++) {
            q.rule(foot);
            q.mark();
        }
        q.rule(9);
        CHECK.refused(q, "mark 4", q.mark(), 4);
        CHECK.due("FOOT stays", q.told(3), 9);
        for (int foot = 3; foot >= 1; foot--) {
            q.undo();
            CHECK.due("FOOT of MARK " + foot, q.told(3), foot);
        }
    }

    /** undo: "(6)". */
    private static void undoWithout() {
        FootQuarrel q = new FootQuarrel();
        CHECK.refused(q, "undo of a new object", q.undo(), 6);
        FootQuarrel r = row();
        r.say(0, 1);
        String state = Scene.state(r);
        CHECK.refused(r, "undo without a MARK", r.undo(), 6);
        CHECK.due("as it was", Scene.state(r).equals(state), true);
        r.mark();
        CHECK.fine(r, "undo of one", r.undo(), 0);
        CHECK.refused(r, "undo of none left", r.undo(), 6);
    }

    private static void undoGivesRoom() {
        FootQuarrel q = row();
        for (int i = 0; i < 10; i++) {
            CHECK.fine(q, "mark", q.mark(), 1);
            CHECK.fine(q, "mark", q.mark(), 2);
            CHECK.fine(q, "mark", q.mark(), 3);
            CHECK.refused(q, "mark", q.mark(), 4);
            CHECK.fine(q, "undo", q.undo(), 2);
            CHECK.fine(q, "mark", q.mark(), 3);
            CHECK.fine(q, "undo", q.undo(), 2);
            CHECK.fine(q, "undo", q.undo(), 1);
            CHECK.fine(q, "undo", q.undo(), 0);
        }
    }

    /** "all is taken back to the latest MARK". */
    private static void latestFirst() {
        FootQuarrel q = row();
        int[] places = new int[4];
        for (int i = 0; i < 3; i++) {
            places[i] = q.wall(0);
            q.mark();
            q.say(0, 1);
        }
        CHECK.due("now", q.wall(0), 32);
        for (int i = 2; i >= 0; i--) {
            q.undo();
            CHECK.due("at MARK " + i, q.wall(0), places[i]);
        }
    }

    /** "which is gone then": a second undo goes further back, not to the same MARK. */
    private static void goneThen() {
        FootQuarrel q = row();
        q.mark();
        q.say(0, 1);
        q.mark();
        q.undo();
        CHECK.due("at the second MARK", q.wall(0), 24);
        q.say(0, 1);
        q.undo();
        CHECK.due("at the first MARK", q.wall(0), 20);
        CHECK.refused(q, "undo", q.undo(), 6);
        CHECK.due("at the first MARK still", q.wall(0), 20);
    }

    /** "the STREET with all that became of it, the YEARS are kept as they are". */
    private static void yearsAreKept() {
        FootQuarrel q = row();
        q.mark();
        Check.years(q, "night 1;");
        q.mark();
        Check.years(q, "night 2;rain;");
        CHECK.fine(q, "the latest YEARS", q.live(0), 2);
        q.undo();
        CHECK.fine(q, "the YEARS of the second MARK", q.live(0), 1);
        CHECK.due("the DAY", q.told(6), 1);
        q.undo();
        CHECK.refused(q, "no YEARS at the first MARK", q.live(0), 6);
        CHECK.due("the DAY", q.told(6), 0);
        Check.years(q, "loop 2;loop 3;night 1;end;when angry r = 0;night 1;end;end;");
        q.mark();
        Check.years(q, "stop;");
        q.undo();
        CHECK.fine(q, "YEARS with parts", q.live(0), 1 + 2 * (1 + 3 + 2));
        CHECK.due("the DAY", q.told(6), 8);
    }

    private static void emptyStreetIsKept() {
        FootQuarrel q = new FootQuarrel();
        q.rule(7);
        q.rain(true);
        q.night(5);
        q.mark();
        Check.street(q, ROW);
        CHECK.due("HOUSES", q.told(0), 3);
        CHECK.fine(q, "undo", q.undo(), 0);
        CHECK.due("no HOUSES", q.told(0), 0);
        CHECK.due("no PEOPLE", q.told(1), 0);
        CHECK.due("FOOT", q.told(3), 7);
        CHECK.due("the DAY", q.told(6), 5);
        CHECK.due("rain", q.told(7), 1);
        CHECK.refused(q, "house(0, 0)", q.house(0, 0), 1);
    }

    /** MARKS stay when another STREET is taken, and bring back the one ahead with its NAMES. */
    private static void otherStreet() {
        FootQuarrel q = row();
        Check.years(q, "say p r;");
        q.say(0, 1);
        String state = Scene.state(q);
        q.mark();
        Check.street(q, "foot 9; house x wide 3; house y wide 4; person z in y;");
        CHECK.fine(q, "a MARK of the other one", q.mark(), 2);
        Check.street(q, "");
        CHECK.fine(q, "undo", q.undo(), 1);
        CHECK.due("the other one", q.house(1, 0), 4);
        CHECK.yearsFault(q, "say p r;", 3, 4);
        CHECK.fine(q, "undo", q.undo(), 0);
        CHECK.due("the first one", Scene.state(q).equals(state), true);
        CHECK.fine(q, "its YEARS", q.live(0), 1);
        CHECK.fine(q, "its NAMES", Check.years(q, "say s r;say p r;when wide a > 0;when wide b > 0;end;end;when wide c > 0;end;"), 5);
    }

    /** Several other STREETS, larger ones, came in between. */
    private static void othersBetween() {
        FootQuarrel q = row();
        q.say(0, 1);
        q.say(2, 1);
        String state = Scene.state(q);
        q.mark();
        for (int i = 0; i < 3; i++) {
            Check.street(q, "foot 9; house u wide 1; house v wide 2; house w wide 3; house x wide 4; person k in x temper 1 hears 1 voice 1 pay 1;"
                    + "person l in w temper 0 hears 9 voice 1 pay 1; person m in v temper 1 hears 0 voice 1 pay 1; person n in v;");
            q.change(2, 3, 9);
            q.say(2, 1);
            CHECK.due("a SHOUT", q.told(12), 1);
        }
        CHECK.fine(q, "undo", q.undo(), 0);
        CHECK.due("the first one", Scene.state(q).equals(state), true);
        CHECK.fine(q, "its NAMES", Check.years(q, "say s r;say p r;when wide a > 0;when wide b > 0;end;end;when wide c > 0;end;"), 5);
        CHECK.yearsFault(q, "when wide x > 0;end;", 3, 10);
    }

    /** The latest 20 QUARRELS, when the row of them was full at the MARK and went on behind it. */
    private static void quarrelsAreKept() {
        for (int ahead : new int[] {0, 1, 19, 20, 21, 33}) {
            FootQuarrel q = Check.withStreet("foot 3; house a wide 9; house b wide 99; house c wide 9; person p in a temper 30 hears 0;"
                    + "person r in b temper 0 hears 9; person s in c temper 30 hears 0;");
            for (int i = 0; i < ahead; i++) {
                q.say(i % 2 * 2, 1);
                q.night(1);
            }
            int kept = q.told(2);
            q.mark();
            // Others, by another FOOT, that are heard back.
            q.rule(7);
            q.change(0, 1, 0);
            q.change(0, 2, 9);
            for (int i = 0; i < 22; i++) {
                q.say(1, 0);
            }
            q.sorry(0);
            q.sorry(6);
            q.undo();
            CHECK.due("QUARRELS", q.told(2), kept);
            for (int k = 0; k < kept; k++) {
                int[] want = {ahead - 1 - k, (ahead - 1 - k) % 2, (ahead - 1 - k) % 2 * 2, 1, 1, (ahead - 1 - k) % 2 == 0 ? 3 : -3, 0};
                for (int what = 0; what < 7; what++) {
                    CHECK.due("quarrel(" + k + ", " + what + ") of " + ahead, q.quarrel(k, what), want[what]);
                }
            }
        }
    }

    /** Each deed by itself is taken back. */
    private static void everyDeedIsTakenBack() {
        for (int deed = 0; deed < 14; deed++) {
            FootQuarrel q = row();
            Check.years(q, "any;any;night 3;");
            q.say(0, 1);
            q.change(1, 1, 20);
            q.say(2, 1);
            String state = Scene.state(q);
            q.mark();
            done(q, deed);
            CHECK.due("that deed " + deed + " changed something", Scene.state(q).equals(state), false);
            CHECK.fine(q, "undo of deed " + deed, q.undo(), 0);
            CHECK.due("deed " + deed + " taken back", Scene.state(q).equals(state), true);
        }
    }

    private static void done(FootQuarrel q, int deed) {
        switch (deed) {
            case 0 -> q.say(0, 1);
            case 1 -> q.sorry(0);
            case 2 -> q.night(1);
            case 3 -> q.rain(true);
            case 4 -> q.peace(0, true);
            case 5 -> q.move(0, 2);
            case 6 -> q.change(2, 1, 0);
            case 7 -> q.change(2, 2, 9);
            case 8 -> q.change(2, 3, 9);
            case 9 -> q.change(2, 4, 9);
            case 10 -> q.rule(9);
            case 11 -> q.survey(0);
            case 12 -> q.soothe(1);
            default -> q.live(3);
        }
    }

    /** TRAYS, the tape, the FRACTION, fault() and lived() are no STREET: undo() leaves them. */
    private static void whatIsNoStreetStays() {
        FootQuarrel q = row();
        q.tray(0, 0, 1);
        Check.years(q, "rain;rain;");
        q.live(0);
        q.mark();
        q.write(0, 0, 5);
        q.tray(1, 0, 1);
        Check.years(q, "rain;rain;rain;rain;rain;");
        q.live(0);
        q.share(0);
        Check.street(q, "foot 0;");
        q.feed(0, 0, 0, 0, 0);
        q.undo();
        CHECK.due("a number in a TRAY", q.read(0, 0), 5);
        CHECK.fine(q, "a TRAY", q.read(1, 0), 0);
        CHECK.due("top()", q.top(), 1);
        CHECK.due("bottom()", q.bottom(), 3);
        CHECK.due("fault(0)", q.fault(0), 4);
        CHECK.due("fault(1)", q.fault(1), 5);
        CHECK.due("lived(0)", q.lived(0), 5);
        CHECK.due("the tape", q.feed(0, 0, 0, 0, 0), 40);
    }

    /** "An object is used for at most 512 calls": the 512th is answered as the first. */
    private static void calls() {
        FootQuarrel q = row();
        // So many calls of feed() and one of street() were made in row().
        int made = (ROW.length() + 19) / 20 + 1;
        for (int i = made; i < 511; i++) {
            q.say(0, 1);
        }
        CHECK.due("the 512th call", q.told(12), 511 - made);
    }

    /** 512 calls of the dearest, with a full STREET. */
    private static void dearCalls() {
        StringBuilder text = new StringBuilder();
        for (char c = 'a'; c <= 'f'; c++) {
            text.append("house ").append(c).append(" wide 99;");
        }
        for (char c = 'm'; c <= 't'; c++) {
            text.append("person ").append(c).append(c % 2 == 0 ? " in c" : " in d").append(" temper 3 hears 9 voice 9;");
        }
        FootQuarrel q = Check.withStreet(text.toString());
        Check.years(q, "loop 99;any;any;any;end;");
        q.mean(0, 0, 20);
        long top = q.top();
        long bottom = q.bottom();
        for (int i = 0; i < 440; i++) {
            CHECK.due("mean", q.mean(0, 0, 20), true);
        }
        CHECK.due("top() of the last", q.top(), top);
        CHECK.due("bottom() of the last", q.bottom(), bottom);
    }
}
