/** The boundary cases of a STREET as a text, each sentence of the document's first part by itself. */
public final class EdgeStreetTest {
    private static final Check CHECK = new Check();
    private static final String[] NO_NAMES = {"foot", "calm", "odds", "house", "wide", "person", "in", "temper", "hears", "voice",
        "pay", "peace", "say", "sorry", "night", "rain", "dry", "any", "when", "angry", "raining", "loop", "end", "stop"};
    private static final String ONE = "house a wide 1;";
    private static final String THREE = "house a wide 1;house b wide 2;house c wide 3;";

    public static void main(String[] args) {
        textLength();
        textEndsInToken();
        emptyText();
        firstBytes();
        bytesInside();
        tokensAsLongAsTheyGo();
        blanksBetween();
        numberDigits();
        parts();
        partsAsOften();
        personParts();
        nameLetters();
        wordsThatAreNoNames();
        namesAreAlmostWords();
        namesOfOneThing();
        numberEdges();
        numbersWithout();
        mostHouses();
        wallsBetween();
        mostPeople();
        peaceNextToEachOther();
        peaceToldAgain();
        toldAhead();
        faultAtEnd();
        longWords();
        toldAlready();
        firstFault();
        leastKind();
        takenIsNew();
        takenIsNewAgain();
        CHECK.finish();
    }

    private static void taken(String text, int people) {
        FootQuarrel q = new FootQuarrel();
        CHECK.fine(q, "street: " + text, Check.street(q, text), people);
        CHECK.due("fault(0) of " + text, q.fault(0), 0);
        CHECK.due("fault(1) of " + text, q.fault(1), -1);
    }

    /** "A STREET is a TEXT of at most 900 bytes." */
    private static void textLength() {
        String text = Check.times(" ", 893) + "foot 7;";
        FootQuarrel q = new FootQuarrel();
        Check.feed(q, text);
        CHECK.fine(q, "a text of 900 bytes", q.street(900), 0);
        CHECK.due("its last PART", q.told(3), 7);
        FootQuarrel cut = new FootQuarrel();
        Check.feed(cut, text);
        CHECK.refused(cut, "its first 899 bytes", cut.street(899), 9);
        CHECK.due("fault(0)", cut.fault(0), 2);
        CHECK.due("fault(1)", cut.fault(1), 899);
        FootQuarrel last = new FootQuarrel();
        Check.feed(last, Check.times("\n", 899) + "?");
        CHECK.refused(last, "a FAULT in the last of 900 bytes", last.street(900), 9);
        CHECK.due("fault(0)", last.fault(0), 1);
        CHECK.due("fault(1)", last.fault(1), 899);
        for (String end : new String[] {"foot", "foot 1", "foot <", "abcdefghi"}) {
            FootQuarrel full = new FootQuarrel();
            Check.feed(full, Check.times(" ", 900 - end.length()) + end);
            CHECK.refused(full, "900 bytes that end with " + end, full.street(900), 9);
            CHECK.due("fault(0)", full.fault(0), 2);
            CHECK.due("fault(1)", full.fault(1), end.startsWith("foot") && !end.endsWith("<") ? 900 : end.endsWith("<") ? 899 : 891);
        }
    }

    /** What stands on the tape behind the first n bytes is no part of the text. */
    private static void textEndsInToken() {
        cut("foot 12;", 6, 2, 6);
        cut("foot 00012;", 9, 2, 9);
        cut("house stopp wide 1;", 10, 2, 6);
        cut("house abcdefghi wide 1;", 14, 2, 14);
        cut("footing 1;", 4, 2, 4);
        cut("foot 1;$", 8, 1, 7);
        FootQuarrel q = new FootQuarrel();
        Check.feed(q, "foot 8;foot 9;$");
        CHECK.fine(q, "cut ahead of FAULTS", q.street(7), 0);
        CHECK.due("FOOT", q.told(3), 8);
    }

    private static void cut(String text, int n, int kind, int place) {
        FootQuarrel q = new FootQuarrel();
        Check.feed(q, text);
        CHECK.refused(q, "the first " + n + " of " + text, q.street(n), 9);
        CHECK.due("fault(0) of " + text, q.fault(0), kind);
        CHECK.due("fault(1) of " + text, q.fault(1), place);
    }

    /** "STREET: {PART}", no PART at all, too. */
    private static void emptyText() {
        FootQuarrel q = Check.withStreet(ONE + "foot 3;");
        CHECK.fine(q, "street(0)", q.street(0), 0);
        CHECK.due("no HOUSES", q.told(0), 0);
        CHECK.due("FOOT without", q.told(3), 1);
        taken(" ", 0);
        taken("\n", 0);
    }

    private static boolean isIn(int sign, String signs) {
        return sign < 128 && signs.indexOf(sign) >= 0;
    }

    /** "WORDS (small letters), NUMBERS .., SIGNS ; < > =", "blanks (10, 32)"; "1 no TOKEN begins so". Every byte. */
    private static void firstBytes() {
        for (int sign = 0; sign < 256; sign++) {
            String text = String.valueOf((char) sign);
            if (sign == 10 || sign == 32) {
                taken(text, 0);
            } else if (sign >= 'a' && sign <= 'z' || sign >= '0' && sign <= '9' || isIn(sign, ";<>=")) {
                CHECK.streetFault(text, 2, 0);
            } else {
                CHECK.streetFault(text, 1, 0);
            }
        }
    }

    /** Every byte where a ; must stand, behind a NUMBER of one digit. */
    private static void bytesInside() {
        for (int sign = 0; sign < 256; sign++) {
            String text = "foot 1" + (char) sign + ";";
            if (sign == 10 || sign == 32) {
                taken(text, 0);
            } else if (sign >= '0' && sign <= '9') {
                CHECK.streetFault(text, 4, 5);
            } else if (sign == ';') {
                CHECK.streetFault(text, 2, 7);
            } else {
                CHECK.streetFault(text, sign >= 'a' && sign <= 'z' || isIn(sign, "<>=") ? 2 : 1, 6);
            }
        }
    }

    /** "TOKENS, as long as they go". */
    private static void tokensAsLongAsTheyGo() {
        taken("foot1;calm0;odds0;house a wide1;", 0);
        CHECK.streetFault("foots 1;", 2, 0);
        CHECK.streetFault("housea wide 1;", 2, 0);
        CHECK.streetFault("house awide 1;", 2, 12);
        CHECK.streetFault("house a wide 1;personp in a;", 2, 15);
        CHECK.streetFault("foot 1 0;", 2, 7);
        CHECK.streetFault("foot 10;", 4, 5);
        CHECK.streetFault("foot 1a;", 2, 6);
        CHECK.streetFault("foot 1foot;", 2, 6);
        CHECK.streetFault("fo ot 1;", 2, 0);
    }

    /** "between them blanks (10, 32)": none, one, many; not 9, 11, 13, 31, 33. */
    private static void blanksBetween() {
        taken("foot 1;calm 1;", 0);
        taken("  foot\n1  ;\n\n", 0);
        taken("foot \n \n 1 \n ; \n", 0);
        for (int sign : new int[] {0, 9, 11, 12, 13, 31, 33, 127, 160}) {
            CHECK.streetFault("foot" + (char) sign + "1;", 1, 4);
        }
    }

    /** "NUMBERS (1 to 4 digits)"; "(a NUMBER of 5 digits and more: at its first)". */
    private static void numberDigits() {
        taken("foot 9;", 0);
        taken("foot 09;", 0);
        taken("foot 009;", 0);
        taken("foot 0009;", 0);
        CHECK.streetFault("foot 00009;", 1, 5);
        CHECK.streetFault("foot 000009;", 1, 5);
        CHECK.streetFault("foot 9999;", 4, 5);
        CHECK.streetFault("foot 0000;", 4, 5);
        CHECK.streetFault("foot 10000;", 1, 5);
        CHECK.streetFault("foot 99999;", 1, 5);
        // By 32 and by 64 bits these would be 1 again.
        CHECK.streetFault("foot 4294967297;", 1, 5);
        CHECK.streetFault("foot 18446744073709551617;", 1, 5);
        CHECK.streetFault("00001", 1, 0);
        CHECK.streetFault("0001", 2, 0);
        CHECK.streetFault("house a wide 00000;", 1, 13);
    }

    /** Every PART as far as its ; and no further: what is cut ahead of it can't stand at the text's end. */
    private static void parts() {
        String ahead = "house y wide 3 ; house z wide 4 ;";
        String[] parts = {"foot 2 ;", "calm 3 ;", "odds 4 ;", "house a wide 5 ;",
            "person p in y temper 7 hears 8 voice 9 pay 10 ;", "peace y z ;"};
        for (String part : parts) {
            String[] tokens = part.split(" ");
            StringBuilder text = new StringBuilder(ahead);
            for (int i = 0; i < tokens.length - 1; i++) {
                text.append(' ').append(tokens[i]);
                CHECK.streetFault(text.toString(), 2, text.length());
                CHECK.streetFault(text + " ;;", 2, text.length() + (endsPart(part, i) ? 2 : 1));
                CHECK.streetFault(text + " =", 2, text.length() + 1);
            }
            taken(text + " ;", part.startsWith("person") ? 1 : 0);
        }
    }

    /** Whether a ; may stand behind the TOKEN: at the PART's end, and behind a HOUSE and each NUMBER of a person. */
    private static boolean endsPart(String part, int token) {
        int tokens = part.split(" ").length;
        return token == tokens - 2 || part.startsWith("person") && token >= 3 && token % 2 == 1;
    }

    /** "({ } any number of times ..)": PARTS in any order that tells what they name ahead. */
    private static void partsAsOften() {
        taken("odds 1;" + ONE + "person p in a;calm 1;house b wide 1;peace a b;person r in b;foot 1;peace b a;house c wide 1;", 2);
        StringBuilder often = new StringBuilder(THREE);
        for (int i = 0; i < 70; i++) {
            often.append("peace a b;");
        }
        taken(often.toString(), 0);
    }

    /** "person NAME in NAME [temper NUMBER] [hears NUMBER] [voice NUMBER] [pay NUMBER]": all sixteen, no other order. */
    private static void personParts() {
        String[] words = {" temper", " hears", " voice", " pay"};
        int[] without = {10, 5, 5, 0};
        for (int told = 0; told < 16; told++) {
            StringBuilder text = new StringBuilder(ONE + "person p in a");
            for (int i = 0; i < 4; i++) {
                if ((told >> i & 1) == 1) {
                    text.append(words[i]).append(' ').append(i + 1);
                }
            }
            FootQuarrel q = Check.withStreet(text + ";");
            for (int i = 0; i < 4; i++) {
                CHECK.fine(q, text + ", what " + (i + 1), q.person(0, i + 1), (told >> i & 1) == 1 ? i + 1 : without[i]);
            }
        }
        String head = ONE + "person p in a";
        for (int first = 0; first < 4; first++) {
            for (int second = 0; second <= first; second++) {
                String text = head + words[first] + " 1";
                CHECK.streetFault(text + words[second] + " 1;", 2, text.length() + 1);
            }
        }
    }

    /** "NAME: a WORD of 1 to 8 letters"; "2 .. a WORD of 9 letters and more where a NAME must stand". */
    private static void nameLetters() {
        taken("house a wide 1;person z in a;", 1);
        taken("house abcdefgh wide 1;person stuvwxyz in abcdefgh;", 1);
        taken("house aaaaaaaa wide 1;house aaaaaaab wide 1;house baaaaaaa wide 1;house aaaaaaa wide 1;peace aaaaaaaa aaaaaaab;", 0);
        CHECK.streetFault("house abcdefghi wide 1;", 2, 6);
        CHECK.streetFault("house abcdefghijklmnopqrstuvwxyz wide 1;", 2, 6);
        CHECK.streetFault(ONE + "person abcdefghi in a;", 2, 22);
        CHECK.streetFault(ONE + "person p in abcdefghi;", 2, 27);
        CHECK.streetFault(ONE + "peace abcdefghi a;", 2, 21);
        CHECK.streetFault(ONE + "peace a abcdefghi;", 2, 23);
        // The first 8 letters, or the last ones, are a HOUSE's NAME.
        CHECK.streetFault("house abcdefgh wide 1;person p in abcdefghi;", 2, 34);
        CHECK.streetFault("house bcdefghi wide 1;person p in abcdefghi;", 2, 34);
        CHECK.streetFault("house aaaaaaaa wide 1;person p in aaaaaaaaa;", 2, 34);
    }

    /** "that is none of foot, calm, .. stop". */
    private static void wordsThatAreNoNames() {
        for (String word : NO_NAMES) {
            CHECK.streetFault("house " + word + " wide 1;", 2, 6);
            CHECK.streetFault(ONE + "person " + word + " in a;", 2, 22);
            CHECK.streetFault(ONE + "person p in " + word + ";", 2, 27);
            CHECK.streetFault(ONE + "peace " + word + " a;", 2, 21);
            CHECK.streetFault(ONE + "peace a " + word + ";", 2, 23);
        }
    }

    /** A letter more, or less, or another one, and it is a NAME (unless it is another WORD of those). */
    private static void namesAreAlmostWords() {
        for (String word : NO_NAMES) {
            String[] almost = {word + "s", "x" + word, word.substring(1), word.substring(0, word.length() - 1),
                word.substring(0, word.length() - 1) + "z", "q" + word.substring(1)};
            for (String name : almost) {
                if (name.length() <= 8 && !java.util.List.of(NO_NAMES).contains(name)) {
                    taken("house " + name + " wide 1;", 0);
                }
            }
        }
    }

    /** "One NAME is of one thing alone." "3 a new NAME that is taken". */
    private static void namesOfOneThing() {
        CHECK.streetFault(ONE + "house a wide 1;", 3, 21);
        CHECK.streetFault(ONE + "person a in a;", 3, 22);
        CHECK.streetFault(ONE + "person p in a;person p in a;", 3, 36);
        CHECK.streetFault(ONE + "person p in a;house p wide 1;", 3, 35);
        CHECK.streetFault(THREE + "house c wide 1;", 3, 51);
        taken(ONE + "person p in a;person r in a;house b wide 1;", 2);
    }

    private static void edges(String ahead, int least, int most, String behind, int what) {
        for (int number = 0; number <= 1001; number++) {
            if (number > 130 && number < 998) {
                continue;
            }
            String text = ahead + number + behind;
            if (number >= least && number <= most) {
                FootQuarrel q = Check.withStreet(text);
                long got = what < 10 ? q.told(what) : what == 10 ? q.house(0, 1) : q.person(0, what - 10);
                CHECK.due("what is told by " + text, got, number);
            } else {
                CHECK.streetFault(text, 4, ahead.length());
            }
        }
        CHECK.streetFault(ahead + 9999 + behind, 4, ahead.length());
    }

    /** "FOOT (1 to 9 ..)", "CALM (0 to 9 ..)", "ODDS (0 to 16 ..)", "WIDE (0 to 99)", "TEMPER (0 to 30 ..)" and so on. */
    private static void numberEdges() {
        edges("foot ", 1, 9, ";", 3);
        edges("calm ", 0, 9, ";", 4);
        edges("odds ", 0, 16, ";", 5);
        edges("house a wide ", 0, 99, ";", 10);
        edges(ONE + "person p in a temper ", 0, 30, ";", 11);
        edges(ONE + "person p in a hears ", 0, 9, ";", 12);
        edges(ONE + "person p in a voice ", 1, 9, ";", 13);
        edges(ONE + "person p in a pay ", 0, 99, ";", 14);
    }

    /** "1 without", "2 without", "4 without", "10 without", "5 without", "5 without", "0 without". */
    private static void numbersWithout() {
        FootQuarrel q = Check.withStreet("foot 9;calm 9;odds 16;" + ONE + "person p in a temper 1 hears 1 voice 1 pay 1;");
        Check.street(q, ONE + "person p in a;");
        CHECK.due("FOOT", q.told(3), 1);
        CHECK.due("CALM", q.told(4), 2);
        CHECK.due("ODDS", q.told(5), 4);
        CHECK.due("TEMPER", q.person(0, 1), 10);
        CHECK.due("HEARS", q.person(0, 2), 5);
        CHECK.due("VOICE", q.person(0, 3), 5);
        CHECK.due("PAY", q.person(0, 4), 0);
    }

    private static String houses(int many) {
        StringBuilder text = new StringBuilder();
        for (int i = 0; i < many; i++) {
            text.append("house h").append((char) ('a' + i)).append(" wide ").append(99 - i).append(";");
        }
        return text.toString();
    }

    private static String people(int many) {
        StringBuilder text = new StringBuilder();
        for (int i = 0; i < many; i++) {
            text.append("person p").append((char) ('a' + i)).append(" in h").append((char) ('a' + i % 6)).append(" pay ").append(i).append(";");
        }
        return text.toString();
    }

    /** "HOUSES, at most 6"; "6 a seventh house .. (at that WORD)". */
    private static void mostHouses() {
        for (int many = 0; many <= 6; many++) {
            FootQuarrel q = Check.withStreet(houses(many));
            CHECK.due("HOUSES", q.told(0), many);
        }
        String six = houses(6);
        CHECK.streetFault(six + "house", 6, six.length());
        CHECK.streetFault(six + "house ha", 6, six.length());
        CHECK.streetFault(six + "\n house x wide 1;", 6, six.length() + 2);
        CHECK.streetFault(six + "houses x wide 1;", 2, six.length());
        CHECK.streetFault(six + "wide", 2, six.length());
        taken(six + "foot 1;person p in hf;peace he hf;", 1);
    }

    /** "side by side in a row as they are told; WALL k is between HOUSE k and the one behind it". */
    private static void wallsBetween() {
        for (int many = 0; many <= 6; many++) {
            FootQuarrel q = Check.withStreet(houses(many));
            int place = 0;
            for (int wall = 0; wall < many - 1; wall++) {
                place += 99 - wall;
                CHECK.fine(q, "wall(" + wall + ") of " + many + " HOUSES", q.wall(wall), place);
            }
            CHECK.refused(q, "behind the last WALL of " + many + " HOUSES", q.wall(Math.max(0, many - 1)), 1);
            CHECK.refused(q, "ahead of the first WALL", q.wall(-1), 1);
        }
    }

    /** "PEOPLE, at most 8"; "6 .. a ninth person (at that WORD)". */
    private static void mostPeople() {
        for (int many = 0; many <= 8; many++) {
            FootQuarrel q = new FootQuarrel();
            CHECK.fine(q, "PEOPLE", Check.street(q, houses(6) + people(many)), many);
            CHECK.due("told(1)", q.told(1), many);
            for (int i = 0; i < many; i++) {
                CHECK.due("the HOUSE of PERSON " + i, q.person(i, 0), i % 6);
                CHECK.due("the PAY of PERSON " + i, q.person(i, 4), i);
            }
            CHECK.refused(q, "behind the last PERSON", q.person(many, 0), 1);
        }
        String eight = houses(6) + people(8);
        CHECK.streetFault(eight + "person", 6, eight.length());
        CHECK.streetFault(eight + " person pa", 6, eight.length() + 1);
        CHECK.streetFault(eight + "house", 6, eight.length());
        CHECK.streetFault(eight + "people", 2, eight.length());
        taken(eight + "foot 1;peace hb hc;", 8);
    }

    /** "PEACE: two HOUSES next to each other"; "5 .. one and itself, too (at the second NAME)". All pairs of six. */
    private static void peaceNextToEachOther() {
        for (int one = 0; one < 6; one++) {
            for (int other = 0; other < 6; other++) {
                String ahead = houses(6) + "peace h" + (char) ('a' + one) + " ";
                String text = ahead + "h" + (char) ('a' + other) + ";";
                if (Math.abs(one - other) == 1) {
                    CHECK.due("WALLS at PEACE by " + text, Check.withStreet(text).told(9), 1 << Math.min(one, other));
                } else {
                    CHECK.streetFault(text, 5, ahead.length());
                }
            }
        }
    }

    /** "(told again: nothing more)". */
    private static void peaceToldAgain() {
        FootQuarrel q = Check.withStreet(THREE + "peace b c;peace b c;peace c b;");
        CHECK.due("WALLS at PEACE", q.told(9), 2);
        CHECK.due("WALLS at PEACE, all", Check.withStreet(THREE + "peace b c;peace a b;peace c b;").told(9), 3);
        CHECK.due("WALLS at PEACE, none", Check.withStreet(THREE).told(9), 0);
    }

    /** "what a PART names must be told ahead"; "3 .. a NAME that is no such one told ahead". */
    private static void toldAhead() {
        CHECK.streetFault("person p in a;" + ONE, 3, 12);
        CHECK.streetFault("person p in p;" + ONE, 3, 12);
        CHECK.streetFault(ONE + "person p in p;", 3, 27);
        CHECK.streetFault(ONE + "person p in a;person r in p;", 3, 41);
        CHECK.streetFault("peace a b;" + THREE, 3, 6);
        CHECK.streetFault(ONE + "peace a b;house b wide 1;", 3, 23);
        CHECK.streetFault(ONE + "peace b a;house b wide 1;", 3, 21);
        CHECK.streetFault(ONE + "person p in a;peace p a;", 3, 35);
        CHECK.streetFault(ONE + "person p in a;peace a p;", 3, 37);
        taken(ONE + "person p in a;house b wide 1;person r in b;peace b a;", 2);
    }

    /** "2 it can't stand there (the end: the text's length ..)": blanks at the end belong to the text. */
    private static void faultAtEnd() {
        CHECK.streetFault("foot", 2, 4);
        CHECK.streetFault("foot ", 2, 5);
        CHECK.streetFault("foot 1", 2, 6);
        CHECK.streetFault("foot 1 \n ", 2, 9);
        CHECK.streetFault("foot 1; calm", 2, 12);
        CHECK.streetFault(ONE + "person p in a temper 3 pay", 2, 41);
        FootQuarrel q = new FootQuarrel();
        Check.feed(q, "foot 1;");
        CHECK.refused(q, "the first 6 of 20 bytes", q.street(6), 9);
        CHECK.due("fault(0)", q.fault(0), 2);
        CHECK.due("fault(1)", q.fault(1), 6);
    }

    /** A WORD of 9 letters and more stands nowhere, whatever it begins or ends with. */
    private static void longWords() {
        CHECK.streetFault("footfootfoot 1;", 2, 0);
        CHECK.streetFault("aaaaaaaaaaaaaaaaaaaaaaaaafoot 1;", 2, 0);
        CHECK.streetFault(ONE + "person p in a tempertemper 1;", 2, 29);
        CHECK.streetFault("house a widewidewide 1;", 2, 8);
        CHECK.streetFault("house " + Check.times("z", 800), 2, 6);
    }

    /** "5 foot, calm, odds told already (at that WORD)". */
    private static void toldAlready() {
        String[] words = {"foot", "calm", "odds"};
        for (String word : words) {
            for (String other : words) {
                String text = word + " 1;";
                if (word.equals(other)) {
                    CHECK.streetFault(text + other + " 1;", 5, 7);
                    CHECK.streetFault(text + " " + other + " 2;", 5, 8);
                    CHECK.streetFault(text + other, 5, 7);
                    CHECK.streetFault(text + other + " $", 5, 7);
                    CHECK.streetFault(text + ONE + other + " 1;", 5, 22);
                } else {
                    taken(text + other + " 1;", 0);
                }
            }
        }
        FootQuarrel q = Check.withStreet("foot 4;calm 4;odds 4;");
        CHECK.fine(q, "told again in another text", Check.street(q, "foot 5;calm 5;odds 5;"), 0);
        Check.street(q, "foot 1;calm 1;odds 1;$");
        CHECK.fine(q, "told again behind a text with a FAULT", Check.street(q, "foot 5;calm 5;odds 5;"), 0);
    }

    /** "FAULTS, the first along the text". */
    private static void firstFault() {
        CHECK.streetFault("foot 0;$", 4, 5);
        CHECK.streetFault("foot 0 $", 4, 5);
        CHECK.streetFault("foot ;0000000", 2, 5);
        CHECK.streetFault("foot 1;foot 0;house foot;$", 5, 7);
        CHECK.streetFault("house a wide 100;house a wide 1;", 4, 13);
        CHECK.streetFault(ONE + "house a wide 100;", 3, 21);
        CHECK.streetFault(houses(6) + "house ha wide 100;", 6, houses(6).length());
        CHECK.streetFault(THREE + "peace a x;", 3, 53);
        CHECK.streetFault(THREE + "peace a c$", 5, 53);
        CHECK.streetFault(THREE + "peace a b$", 1, 54);
    }

    /** "(of one TOKEN the least kind)". */
    private static void leastKind() {
        // 1 ahead of 2 and of 4: no TOKEN, where another one must stand.
        CHECK.streetFault("foot 99999;", 1, 5);
        CHECK.streetFault("house 12345 wide 1;", 1, 6);
        CHECK.streetFault("house A wide 1;", 1, 6);
        CHECK.streetFault("foot 1 00000", 1, 7);
        // 2 ahead of 3: a WORD that is no NAME is no one's.
        CHECK.streetFault(ONE + "peace wide a;", 2, 21);
        CHECK.streetFault(ONE + "person p in abcdefghi;", 2, 27);
        // 2 ahead of 4: a NUMBER that can't be, where none can stand.
        CHECK.streetFault("foot 1 9999;", 2, 7);
        // 3 ahead of 5: a PERSON is no HOUSE next to another.
        CHECK.streetFault(ONE + "person p in a;peace a p;", 3, 37);
        CHECK.streetFault(THREE + "peace c x;", 3, 53);
    }

    /** "it is DAY 0, dry, nobody is angry, nothing was said; there are no YEARS." */
    private static void takenIsNew() {
        String text = "foot 2;house a wide 9;house b wide 9;person p in a voice 9;person r in b temper 5;";
        FootQuarrel q = Check.withStreet(text);
        Check.years(q, "rain;");
        q.say(0, 1);
        q.say(1, 0);
        q.night(3);
        q.rain(true);
        q.peace(0, true);
        CHECK.fine(q, "the same text again", Check.street(q, text), 2);
        String fresh = Scene.state(Check.withStreet(text));
        CHECK.due("as a new one", Scene.state(q).equals(fresh), true);
        CHECK.refused(q, "no YEARS", q.live(0), 6);
        CHECK.refused(q, "no QUARREL", q.quarrel(0, 0), 1);
        CHECK.due("the DAY", q.told(6), 0);
        CHECK.due("dry", q.told(7), 0);
        CHECK.due("nobody is angry", q.told(8), 0);
        CHECK.due("no PEACE", q.told(9), 0);
        CHECK.due("nothing was said", q.told(11), 0);
        CHECK.due("no SHOUTS", q.told(12), 0);
    }

    /** Whatever became of STREETS ahead, large and small ones, one that is taken is as in a new object. */
    private static void takenIsNewAgain() {
        String large = houses(6) + people(8) + "peace he hf;";
        String small = "house x wide 2;house y wide 3;person z in x;person w in y;";
        FootQuarrel q = new FootQuarrel();
        for (int i = 0; i < 5; i++) {
            CHECK.fine(q, "a large STREET", Check.street(q, large), 8);
            CHECK.due("as a new one", Scene.state(q).equals(Scene.state(Check.withStreet(large))), true);
            for (int person = 0; person < 8; person++) {
                q.change(person, 1, person % 2 * 30);
                q.change(person, 2, 9);
                q.change(person, 3, 9);
                q.change(person, 4, 9);
            }
            q.rule(9);
            q.say(1, 0);
            q.say(0, 1);
            q.night(i + 1);
            q.rain(true);
            q.peace(1, true);
            CHECK.due("a QUARREL was", q.told(2), 1);
            if (i % 2 == 0) {
                CHECK.fine(q, "a small STREET", Check.street(q, small), 2);
                CHECK.due("as a new one", Scene.state(q).equals(Scene.state(Check.withStreet(small))), true);
                q.change(1, 1, 0);
                q.say(0, 1);
                q.night(3);
            }
        }
    }
}
