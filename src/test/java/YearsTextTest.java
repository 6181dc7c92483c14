/** Promises 11 and 12: YEARS as a text. */
public final class YearsTextTest {
    private static final Check CHECK = new Check();

    public static void main(String[] args) {
        counts();
        lengths();
        tokenAndStandFaults();
        blockFaults();
        nameFaults();
        numberFaults();
        manyFaults();
        deepFaults();
        oldStay();
        CHECK.finish();
    }

    private static FootQuarrel row() {
        return Check.withStreet("house a wide 5; house b wide 5; person p in a; person r in b;");
    }

    private static void counts() {
        FootQuarrel q = row();
        CHECK.fine(q, "years(0)", q.years(0), 0);
        CHECK.due("fault(0)", q.fault(0), 0);
        CHECK.due("fault(1)", q.fault(1), -1);
        CHECK.fine(q, "blanks", Check.years(q, " \n "), 0);
        CHECK.fine(q, "every STEP", Check.years(q, "say p r;sorry;night 1;rain;dry;any;when raining;end;loop 1;end;stop;"), 9);
        CHECK.fine(q, "every TEST", Check.years(q, "when angry p<0;end;when angry r > 99;end;when wide a=999;when raining;end;end;"), 4);
        CHECK.fine(q, "one to himself", Check.years(q, "say p p;"), 1);
        CHECK.fine(q, "the edges of NUMBERS", Check.years(q, "night 20; loop 99; end; loop 0001; end;"), 3);
    }

    private static void lengths() {
        FootQuarrel q = row();
        Check.feed(q, Check.times(" ", 320));
        CHECK.refused(q, "years(301)", q.years(301), 1);
        CHECK.refused(q, "years(321)", q.years(321), 1);
        CHECK.refused(q, "years(-1)", q.years(-1), 1);
        CHECK.fine(q, "years(300)", q.years(300), 0);
        CHECK.refused(q, "years(1), the tape is empty", q.years(1), 1);
        Check.feed(q, "rain;");
        CHECK.refused(q, "years(21)", q.years(21), 1);
        CHECK.fine(q, "years(5)", q.years(5), 1);
    }

    private static void tokenAndStandFaults() {
        FootQuarrel q = row();
        CHECK.yearsFault(q, "rain; Dry;", 1, 6);
        CHECK.yearsFault(q, "night 00001;", 1, 6);
        CHECK.yearsFault(q, "when angry p ! 3;", 1, 13);
        CHECK.yearsFault(q, ";", 2, 0);
        CHECK.yearsFault(q, "p", 2, 0);
        CHECK.yearsFault(q, "5", 2, 0);
        CHECK.yearsFault(q, "foot 1;", 2, 0);
        CHECK.yearsFault(q, "peace a b;", 2, 0);
        CHECK.yearsFault(q, "angry p < 1;", 2, 0);
        CHECK.yearsFault(q, "raining;", 2, 0);
        CHECK.yearsFault(q, "wide a < 1;", 2, 0);
        CHECK.yearsFault(q, "rain", 2, 4);
        CHECK.yearsFault(q, "rain dry", 2, 5);
        CHECK.yearsFault(q, "say p ;", 2, 6);
        CHECK.yearsFault(q, "say ;", 2, 4);
        CHECK.yearsFault(q, "say p abcdefghi;", 2, 6);
        CHECK.yearsFault(q, "say p say;", 2, 6);
        CHECK.yearsFault(q, "night ;", 2, 6);
        CHECK.yearsFault(q, "night p;", 2, 6);
        CHECK.yearsFault(q, "loop ;", 2, 5);
        CHECK.yearsFault(q, "when ;", 2, 5);
        CHECK.yearsFault(q, "when rain;", 2, 5);
        CHECK.yearsFault(q, "when angry < 3;", 2, 11);
        CHECK.yearsFault(q, "when angry p 3;", 2, 13);
        CHECK.yearsFault(q, "when angry p ; 3", 2, 13);
        CHECK.yearsFault(q, "when angry p < p;", 2, 15);
        CHECK.yearsFault(q, "when angry p << 3;", 2, 14);
        CHECK.yearsFault(q, "when raining < 3;", 2, 13);
        CHECK.yearsFault(q, "stop 1;", 2, 5);
    }

    private static void blockFaults() {
        FootQuarrel q = row();
        CHECK.yearsFault(q, "end;", 2, 0);
        CHECK.yearsFault(q, "loop 1; end; end;", 2, 13);
        CHECK.yearsFault(q, "loop 1; rain; ", 2, 14);
        CHECK.yearsFault(q, "loop 1; when raining; end;", 2, 26);
        CHECK.yearsFault(q, "loop 1; end", 2, 11);
        CHECK.yearsFault(q, "loop 1; end rain;", 2, 12);
        CHECK.yearsFault(q, "loop 1 end;", 2, 7);
        CHECK.yearsFault(q, "when raining end;", 2, 13);
    }

    private static void nameFaults() {
        FootQuarrel q = row();
        CHECK.yearsFault(q, "say x r;", 3, 4);
        CHECK.yearsFault(q, "say p x;", 3, 6);
        CHECK.yearsFault(q, "say a r;", 3, 4);
        CHECK.yearsFault(q, "say p b;", 3, 6);
        CHECK.yearsFault(q, "when angry a < 3;", 3, 11);
        CHECK.yearsFault(q, "when wide p < 3;", 3, 10);
        FootQuarrel none = new FootQuarrel();
        CHECK.yearsFault(none, "say p r;", 3, 4);
        CHECK.fine(none, "any without PEOPLE", Check.years(none, "any;"), 1);
    }

    private static void numberFaults() {
        FootQuarrel q = row();
        CHECK.yearsFault(q, "night 0;", 4, 6);
        CHECK.yearsFault(q, "night 21;", 4, 6);
        CHECK.yearsFault(q, "loop 0;", 4, 5);
        CHECK.yearsFault(q, "loop 100;", 4, 5);
        CHECK.yearsFault(q, "when angry p < 100;", 4, 15);
        CHECK.yearsFault(q, "when wide a = 1000;", 4, 14);
    }

    private static void manyFaults() {
        FootQuarrel q = row();
        String thirty = Check.times("rain;", 30);
        CHECK.fine(q, "30 STEPS", Check.years(q, thirty), 30);
        CHECK.yearsFault(q, thirty + "rain", 6, 150);
        CHECK.yearsFault(q, thirty + "end;", 2, 150);
        CHECK.yearsFault(q, thirty + "foot;", 2, 150);
        CHECK.yearsFault(q, thirty + "?", 1, 150);
        String opened = Check.times("loop 1;end;", 10) + "loop 1;" + Check.times("dry;", 19);
        CHECK.fine(q, "end is no STEP", Check.years(q, opened + "end;"), 30);
        CHECK.yearsFault(q, opened + "stop;end;", 6, opened.length());
        // 30 STEPS that all have an end take 330 bytes, so no text has more than 27 of them.
        CHECK.fine(q, "the most ends", Check.years(q, Check.times("loop 1;end;", 27)), 27);
    }

    private static void deepFaults() {
        FootQuarrel q = row();
        String three = "loop 1; when raining; loop 2;";
        CHECK.fine(q, "three deep", Check.years(q, three + "rain; end; end; end;"), 4);
        CHECK.yearsFault(q, three + "when raining; end;", 7, 29);
        CHECK.yearsFault(q, three + "loop", 7, 29);
        CHECK.fine(q, "three deep twice", Check.years(q, three + "end; loop 3; end; end; loop 1; end; end;"), 5);
        String full = three + Check.times("dry;", 27);
        CHECK.yearsFault(q, full + "loop 1;", 6, full.length());
    }

    private static void oldStay() {
        FootQuarrel q = row();
        Check.years(q, "rain; dry; rain;");
        CHECK.yearsFault(q, "rain; stop; dry", 2, 15);
        CHECK.fine(q, "the old ones", q.live(0), 3);
        CHECK.fine(q, "a STREET is taken", Check.street(q, "house a wide 5;"), 0);
        CHECK.refused(q, "no YEARS", q.live(0), 6);
        CHECK.yearsFault(q, "when angry", 2, 10);
        CHECK.refused(q, "no YEARS still", q.live(0), 6);
        CHECK.fine(q, "YEARS without a STEP", q.years(0), 0);
        CHECK.fine(q, "live(0) without a STEP", q.live(0), 0);
    }
}
