/** The boundary cases of YEARS as a text, each sentence of the document's fourth part by itself. */
public final class EdgeYearsTest {
    private static final Check CHECK = new Check();
    private static final String ROW = "house a wide 5; house b wide 5; person p in a; person r in b;";
    private static final String[] NO_NAMES = {"foot", "calm", "odds", "house", "wide", "person", "in", "temper", "hears", "voice",
        "pay", "peace", "say", "sorry", "night", "rain", "dry", "any", "when", "angry", "raining", "loop", "end", "stop"};
    private static final String[] STEPS = {"say p r;", "sorry;", "night 1;", "rain;", "dry;", "any;", "stop;"};

    public static void main(String[] args) {
        textLength();
        noneAtFirst();
        noSteps();
        firstBytes();
        everyStep();
        everyTest();
        wordsThatBeginNoStep();
        cutSteps();
        numberEdges();
        numberDigits();
        names();
        wordsThatAreNoNames();
        compares();
        endWithoutBeginning();
        endOfTextAheadOfEnd();
        thirtySteps();
        thirtyFirstStep();
        endIsNoStep();
        threeDeep();
        fourthDeep();
        deepAgain();
        sixAheadOfSeven();
        firstFault();
        leastKind();
        oldStay();
        goneWithStreet();
        CHECK.finish();
    }

    private static FootQuarrel row() {
        return Check.withStreet(ROW);
    }

    private static void taken(String text, int steps) {
        FootQuarrel q = row();
        CHECK.fine(q, "years: " + text, Check.years(q, text), steps);
        CHECK.due("fault(0) of " + text, q.fault(0), 0);
        CHECK.due("fault(1) of " + text, q.fault(1), -1);
    }

    private static void fault(String text, int kind, int place) {
        CHECK.yearsFault(row(), text, kind, place);
    }

    /** "YEARS are a TEXT of at most 300 bytes". */
    private static void textLength() {
        String text = Check.times(" ", 295) + "rain;";
        taken(text, 1);
        FootQuarrel q = row();
        Check.feed(q, " " + text);
        CHECK.refused(q, "301 bytes", q.years(301), 1);
        CHECK.refused(q, "the first 300 of them, cut", q.years(300), 9);
        CHECK.due("fault(0)", q.fault(0), 2);
        CHECK.due("fault(1)", q.fault(1), 300);
        fault(Check.times(" ", 299) + "!", 1, 299);
    }

    /** "(none at first)". */
    private static void noneAtFirst() {
        FootQuarrel q = new FootQuarrel();
        CHECK.refused(q, "live(0) of a new object", q.live(0), 6);
        CHECK.fine(q, "YEARS of a new object", Check.years(q, "rain;"), 1);
        CHECK.fine(q, "live(0)", q.live(0), 1);
        FootQuarrel row = row();
        CHECK.refused(row, "live(0) of a new STREET", row.live(0), 6);
    }

    /** "{STEP}": no STEP at all, too. */
    private static void noSteps() {
        FootQuarrel q = row();
        CHECK.fine(q, "years(0)", q.years(0), 0);
        CHECK.fine(q, "live(0) of no STEPS", q.live(0), 0);
        taken(" \n", 0);
    }

    /** Every byte where a STEP begins. */
    private static void firstBytes() {
        for (int sign = 0; sign < 256; sign++) {
            String text = String.valueOf((char) sign);
            if (sign == 10 || sign == 32) {
                taken(text, 0);
            } else {
                boolean token = sign >= 'a' && sign <= 'z' || sign >= '0' && sign <= '9' || sign < 128 && ";<>=".indexOf(sign) >= 0;
                fault(text, token ? 2 : 1, 0);
            }
        }
    }

    /** "STEP: say NAME NAME ; or sorry ; or night NUMBER ; or rain ; .. or stop ;" */
    private static void everyStep() {
        for (String step : STEPS) {
            taken(step, 1);
            taken(step.replace(";", " \n;"), 1);
            taken(step + step, 2);
            taken("loop 1;" + step + "end;", 2);
            taken("when raining;" + step + "end;", 2);
        }
        taken("loop 1;end;", 1);
        taken("when raining;end;", 1);
        taken("loop1;end;night1;", 2);
        taken("say p p;", 1);
        taken("say r p;", 1);
        fault("sorry p;", 2, 6);
        fault("rain 1;", 2, 5);
        fault("dry ;;", 2, 5);
        fault("any any;", 2, 4);
        fault("say p;", 2, 5);
        fault("say p r p;", 2, 8);
        fault("say p 1;", 2, 6);
        fault("night p;", 2, 6);
        fault("night 1 1;", 2, 8);
        fault("loop p;", 2, 5);
        fault("when p;", 2, 5);
        fault("stop stop;", 2, 5);
    }

    /** "TEST: angry NAME COMPARES NUMBER, or wide NAME COMPARES NUMBER, or raining. COMPARES: < or > or =" */
    private static void everyTest() {
        for (String sign : new String[] {"<", ">", "="}) {
            taken("when angry p " + sign + " 3;end;", 1);
            taken("when angry p" + sign + "3;end;", 1);
            taken("when wide a " + sign + " 3;end;", 1);
        }
        taken("when raining;end;", 1);
        for (String word : NO_NAMES) {
            if (!word.equals("angry") && !word.equals("wide") && !word.equals("raining")) {
                fault("when " + word + " p < 3;end;", 2, 5);
            }
        }
        fault("when raining p < 3;end;", 2, 13);
        fault("when angry < 3;end;", 2, 11);
        fault("when wide 3;end;", 2, 10);
        fault("when angry p 3;end;", 2, 13);
        fault("when angry p <;end;", 2, 14);
        fault("when angry p < 3 4;end;", 2, 17);
        fault("when raining;raining;", 2, 13);
    }

    private static void wordsThatBeginNoStep() {
        java.util.List<String> begin = java.util.List.of("say", "sorry", "night", "rain", "dry", "any", "when", "loop", "stop");
        for (String word : NO_NAMES) {
            if (!begin.contains(word)) {
                fault(word, 2, 0);
                fault("rain;" + word + ";", 2, 5);
            }
        }
        fault("rains;", 2, 0);
        fault("sayp r;", 2, 0);
        fault("p;", 2, 0);
        fault("7;", 2, 0);
        fault("stopstopstop;", 2, 0);
    }

    /** What is cut ahead of its end can't stand at the text's end. */
    private static void cutSteps() {
        String[] texts = {"say p r ;", "sorry ;", "night 3 ;", "rain ;", "dry ;", "any ;", "stop ;",
            "when angry p < 3 ; end ;", "when wide b = 3 ; end ;", "when raining ; end ;", "loop 3 ; rain ; end ;"};
        for (String text : texts) {
            String[] tokens = text.split(" ");
            StringBuilder cut = new StringBuilder();
            for (int i = 0; i < tokens.length - 1; i++) {
                cut.append(cut.length() == 0 ? "" : " ").append(tokens[i]);
                fault(cut.toString(), 2, cut.length());
                fault(cut + "  ", 2, cut.length() + 2);
            }
        }
    }

    private static void edges(String ahead, int least, int most, String behind) {
        for (int number = 0; number <= 1002; number++) {
            if (number > 103 && number < 996) {
                continue;
            }
            if (number >= least && number <= most) {
                taken(ahead + number + behind, 1);
            } else {
                fault(ahead + number + behind, 4, ahead.length());
            }
        }
        fault(ahead + 9999 + behind, 4, ahead.length());
    }

    /** "night: so many (1 to 20)"; "loop n (1 to 99)"; "angry: 0 to 99; wide: 0 to 999". */
    private static void numberEdges() {
        edges("night ", 1, 20, ";");
        edges("loop ", 1, 99, ";end;");
        edges("when angry p < ", 0, 99, ";end;");
        edges("when wide a > ", 0, 999, ";end;");
    }

    private static void numberDigits() {
        taken("night 0020;", 1);
        fault("night 00020;", 1, 6);
        fault("night 0021;", 4, 6);
        fault("loop 00001;end;", 1, 5);
        fault("when wide a = 00000;end;", 1, 14);
        fault("when wide a = 1000;end;", 4, 14);
    }

    /** "3 a NAME that is no such one (PEOPLE; a HOUSE behind wide)". */
    private static void names() {
        fault("say x r;", 3, 4);
        fault("say p x;", 3, 6);
        fault("say a r;", 3, 4);
        fault("say p b;", 3, 6);
        fault("when angry x < 1;end;", 3, 11);
        fault("when angry a < 1;end;", 3, 11);
        fault("when wide x < 1;end;", 3, 10);
        fault("when wide p < 1;end;", 3, 10);
        fault("say abcdefgh r;", 3, 4);
        fault("say abcdefghi r;", 2, 4);
        fault("when angry abcdefghi < 1;end;", 2, 11);
        fault("when wide abcdefghi < 1;end;", 2, 10);
        CHECK.yearsFault(new FootQuarrel(), "say p r;", 3, 4);
        CHECK.yearsFault(new FootQuarrel(), "when wide a < 1;end;", 3, 10);
        FootQuarrel six = Check.withStreet("house a wide 1;house b wide 1;house c wide 1;house d wide 1;house e wide 1;house f wide 1;"
                + "person g in a;person h in a;person i in a;person j in a;person k in a;person l in a;person m in a;person n in f;");
        CHECK.fine(six, "the last ones of all", Check.years(six, "say n g;when wide f < 9;when angry n < 9;end;end;"), 3);
    }

    private static void wordsThatAreNoNames() {
        for (String word : NO_NAMES) {
            fault("say " + word + " r;", 2, 4);
            fault("say p " + word + ";", 2, 6);
            fault("when angry " + word + " < 1;end;", 2, 11);
            fault("when wide " + word + " < 1;end;", 2, 10);
        }
    }

    private static void compares() {
        fault("when angry p ; 3;end;", 2, 13);
        fault("when angry p << 3;end;", 2, 14);
        fault("when angry p <= 3;end;", 2, 14);
        fault("when angry p == 3;end;", 2, 14);
        fault("when angry p ! 3;end;", 1, 13);
        fault("when angry p p 3;end;", 2, 13);
    }

    /** "2 .. (an end without a beginning ..)". */
    private static void endWithoutBeginning() {
        fault("end;", 2, 0);
        fault("rain;end;", 2, 5);
        fault("loop 1;end;end;", 2, 11);
        fault("loop 1;loop 1;end;end;end;", 2, 22);
        fault("when raining;end; end;", 2, 18);
        fault("stop;end;", 2, 5);
    }

    /** "the text's end ahead of an end: 2". */
    private static void endOfTextAheadOfEnd() {
        fault("loop 1;", 2, 7);
        fault("loop 1; \n", 2, 9);
        fault("when raining;rain;", 2, 18);
        fault("loop 1;when raining;end;", 2, 24);
        fault("loop 1;end", 2, 10);
        fault("loop 1;stop;", 2, 12);
    }

    private static String many(String step, int steps) {
        return Check.times(step, steps);
    }

    /** "6 a 31st STEP": thirty are taken, of each sort that 300 bytes hold thirty of. */
    private static void thirtySteps() {
        for (String step : STEPS) {
            if (step.length() * 30 <= 300) {
                taken(many(step, 29), 29);
                taken(many(step, 30), 30);
            }
        }
        taken(many("dry;", 29) + "loop 1;end;", 30);
        taken(many("dry;", 28) + "loop 1;loop 1;end;end;", 30);
        taken("loop 1;" + many("dry;", 29) + "end;", 30);
        taken("loop 1;loop 1;loop 1;" + many("dry;", 27) + "end;end;end;", 30);
    }

    /** "6 a 31st STEP (at its WORD ..)". */
    private static void thirtyFirstStep() {
        String thirty = many("rain;", 30);
        for (String word : new String[] {"say", "sorry", "night", "rain", "dry", "any", "when", "loop", "stop"}) {
            fault(thirty + word, 6, 150);
            fault(thirty + "\n " + word + " ;", 6, 152);
            fault("loop 1;" + many("rain;", 29) + word, 6, 152);
        }
    }

    /** "end is none". */
    private static void endIsNoStep() {
        taken(many("loop 1;end;", 27), 27);
        taken("loop 1;" + many("dry;", 29) + "end;", 30);
        fault(many("dry;", 30) + "end;", 2, 120);
        fault("loop 1;" + many("dry;", 29) + "end;end;", 2, 127);
        fault("loop 1;" + many("dry;", 29), 2, 123);
        fault("loop 1;" + many("dry;", 29) + "end;dry;", 6, 127);
    }

    private static String opens(int which) {
        StringBuilder text = new StringBuilder();
        for (int i = 0; i < 3; i++) {
            text.append((which >> i & 1) == 0 ? "loop 1;" : "when raining;");
        }
        return text.toString();
    }

    /** Three within each other, of both sorts. */
    private static void threeDeep() {
        for (int which = 0; which < 8; which++) {
            taken(opens(which) + "end;end;end;", 3);
            taken(opens(which) + "rain;end;dry;end;stop;end;any;", 7);
        }
    }

    /** "7 a when, loop within three others (at its WORD)". */
    private static void fourthDeep() {
        for (int which = 0; which < 8; which++) {
            String three = opens(which);
            fault(three + "loop 1;end;end;end;end;", 7, three.length());
            fault(three + "when raining;end;end;end;end;", 7, three.length());
            fault(three + "rain; when", 7, three.length() + 6);
            fault(three + "rain; loop 999;", 7, three.length() + 6);
        }
    }

    /** Behind an end there is room for one more. */
    private static void deepAgain() {
        taken("loop 1;loop 1;loop 1;end;loop 1;end;loop 1;end;end;end;", 5);
        taken("loop 1;loop 1;loop 1;end;end;loop 1;loop 1;end;end;end;", 5);
        fault("loop 1;loop 1;loop 1;end;loop 1;loop 1;", 7, 32);
    }

    /** "(of one TOKEN the least kind)": a 31st STEP within three others. */
    private static void sixAheadOfSeven() {
        String text = "loop 1;loop 1;loop 1;" + many("dry;", 27);
        fault(text + "loop 1;", 6, text.length());
        fault(text + "when", 6, text.length());
        fault("loop 1;loop 1;loop 1;" + many("dry;", 26) + "loop 1;", 7, text.length() - 4);
    }

    /** "FAULTS, the first along the text". */
    private static void firstFault() {
        fault("night 0;$", 4, 6);
        fault("say x x;end;", 3, 4);
        fault("loop 0;loop 1;", 4, 5);
        fault("loop 1;night 21;", 4, 13);
        fault(many("rain;", 30) + "rain;$", 6, 150);
        fault("end;$", 2, 0);
        fault("when angry p < 100;$", 4, 15);
    }

    /** "(of one TOKEN the least kind)". */
    private static void leastKind() {
        fault("night 99999;", 1, 6);
        fault("say 99999 r;", 1, 4);
        fault("when angry p 99999;", 1, 13);
        fault(many("rain;", 30) + "99999", 1, 150);
        fault(many("rain;", 30) + "p;", 2, 150);
        fault(many("rain;", 30) + "9999;", 2, 150);
        fault("loop 1;loop 1;loop 1;$", 1, 21);
    }

    /** "9: the old one stays", the STREET, too. */
    private static void oldStay() {
        FootQuarrel q = row();
        Check.years(q, "say p r;night 1;");
        String[] texts = {"$", "end;", "say p x;", "night 21;", many("rain;", 31), "loop 1;loop 1;loop 1;loop 1;", "loop 1;stop;"};
        for (String text : texts) {
            CHECK.refused(q, "years: " + text, Check.years(q, text), 9);
            String state = Scene.state(q);
            q.mark();
            CHECK.fine(q, "the old YEARS behind " + text, q.live(0), 2);
            CHECK.fine(q, "NIGHTS of the old YEARS", q.lived(1), 1);
            q.undo();
            CHECK.due("the STREET behind " + text, Scene.state(q).equals(state), true);
        }
    }

    /** "there are no YEARS": a STREET that is taken has none, one that isn't leaves those there are. */
    private static void goneWithStreet() {
        FootQuarrel q = row();
        Check.years(q, "rain;dry;");
        CHECK.refused(q, "a STREET with a FAULT", Check.street(q, ROW + "$"), 9);
        CHECK.fine(q, "the YEARS stay", q.live(0), 2);
        CHECK.fine(q, "the same STREET", Check.street(q, ROW), 2);
        CHECK.refused(q, "no YEARS", q.live(0), 6);
        CHECK.denied(q, "no YEARS for a mean", q.mean(0, 0, 1), 6);
    }
}
