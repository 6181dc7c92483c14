/** The boundary cases of the tape and of what is told of a text, promises 9 to 12. */
public final class EdgeTapeTest {
    private static final Check CHECK = new Check();
    private static final int BLANKS = 0x20202020;

    public static void main(String[] args) {
        highestFirst();
        everyByte();
        fullTape();
        feedBeyondStays();
        streetLengths();
        streetEmptiesAll();
        streetRefusedKeepsTape();
        streetFaultEmptiesTape();
        yearsLengths();
        yearsEmptyAll();
        yearsRefusedKeepTape();
        yearsFaultEmptiesTape();
        faultAheadOfAny();
        faultOfOthers();
        faultWithout();
        faultOfStatusOne();
        faultOfLatest();
        CHECK.finish();
    }

    private static void blanks(FootQuarrel q, int feeds) {
        for (int i = 0; i < feeds; i++) {
            q.feed(BLANKS, BLANKS, BLANKS, BLANKS, BLANKS);
        }
    }

    /** "Twenty bytes come behind those on the tape, the highest of each int first". */
    private static void highestFirst() {
        FootQuarrel q = new FootQuarrel();
        // "foot", " 0 0" can't be told from others; "odds 12 ; calm 8 ;" stands in another order in each int.
        CHECK.due("feed", q.feed(0x6f646473, 0x20203132, 0x3b63616c, 0x6d202038, 0x3b20200a), 20);
        CHECK.due("feed behind it", q.feed(0x666f6f74, 0x203b3b3b, BLANKS, BLANKS, BLANKS), 40);
        CHECK.refused(q, "the 26th byte", q.street(26), 9);
        CHECK.due("fault(0)", q.fault(0), 2);
        CHECK.due("fault(1)", q.fault(1), 25);
        q.feed(0x6f646473, 0x20203132, 0x3b63616c, 0x6d202038, 0x3b20200a);
        q.feed(0x666f6f74, 0x20393b20, BLANKS, BLANKS, BLANKS);
        CHECK.fine(q, "street(40)", q.street(40), 0);
        CHECK.due("odds", q.told(5), 12);
        CHECK.due("calm", q.told(4), 8);
        CHECK.due("foot", q.told(3), 9);
    }

    /** Each of the twenty bytes counts, in its place, whatever its highest bit is. */
    private static void everyByte() {
        for (int place = 0; place < 20; place++) {
            int[] ints = {BLANKS, BLANKS, BLANKS, BLANKS, BLANKS};
            int shift = 24 - place % 4 * 8;
            ints[place / 4] = ints[place / 4] & ~(0xff << shift) | 0xff << shift;
            FootQuarrel q = new FootQuarrel();
            q.feed(ints[0], ints[1], ints[2], ints[3], ints[4]);
            CHECK.refused(q, "byte 255 at " + place, q.street(20), 9);
            CHECK.due("fault(0)", q.fault(0), 1);
            CHECK.due("fault(1)", q.fault(1), place);
        }
    }

    /** "how many it has; NONE if there would be more than 900". */
    private static void fullTape() {
        FootQuarrel q = new FootQuarrel();
        for (int many = 20; many <= 900; many += 20) {
            CHECK.due("feed", q.feed(BLANKS, BLANKS, BLANKS, BLANKS, BLANKS), many);
        }
        CHECK.due("feed beyond 900", q.feed(BLANKS, BLANKS, BLANKS, BLANKS, BLANKS), -1);
        CHECK.due("feed beyond 900 again", q.feed(0, 0, 0, 0, 0), -1);
        CHECK.refused(q, "street(901)", q.street(901), 1);
        CHECK.fine(q, "street(900)", q.street(900), 0);
        CHECK.due("feed to an empty tape", q.feed(0, 0, 0, 0, 0), 20);
    }

    /** A feed() that gives NONE leaves the full tape as it was. */
    private static void feedBeyondStays() {
        FootQuarrel q = new FootQuarrel();
        q.feed(0x666f6f74, 0x20373b20, BLANKS, BLANKS, BLANKS);
        blanks(q, 43);
        q.feed(BLANKS, BLANKS, 0x20202063, 0x616c6d20, 0x2020353b);
        CHECK.due("feed beyond 900", q.feed(0x31313131, 0x31313131, 0x31313131, 0x31313131, 0x31313131), -1);
        CHECK.fine(q, "street(900)", q.street(900), 0);
        CHECK.due("its first bytes", q.told(3), 7);
        CHECK.due("its last bytes", q.told(4), 5);
    }

    /** street: "The first n bytes of the tape"; "1: n below 0, or more than the tape has, too". */
    private static void streetLengths() {
        FootQuarrel q = new FootQuarrel();
        CHECK.refused(q, "street(1) of 0 bytes", q.street(1), 1);
        CHECK.refused(q, "street(-1) of 0 bytes", q.street(-1), 1);
        CHECK.fine(q, "street(0) of 0 bytes", q.street(0), 0);
        blanks(q, 1);
        CHECK.refused(q, "street(21) of 20 bytes", q.street(21), 1);
        CHECK.refused(q, "street(-1) of 20 bytes", q.street(-1), 1);
        CHECK.refused(q, "street of the least number", q.street(Integer.MIN_VALUE), 1);
        CHECK.refused(q, "street of the most", q.street(Integer.MAX_VALUE), 1);
        CHECK.fine(q, "street(20) of 20 bytes", q.street(20), 0);
        Check.feed(q, "foot 3;foot 4;");
        CHECK.fine(q, "the first 7 alone", q.street(7), 0);
        CHECK.due("FOOT", q.told(3), 3);
        Check.feed(q, "foot 5;");
        CHECK.fine(q, "the first 0", q.street(0), 0);
        CHECK.due("FOOT without", q.told(3), 1);
    }

    /** "(which is empty then)": also what stands behind the first n bytes. */
    private static void streetEmptiesAll() {
        FootQuarrel q = new FootQuarrel();
        blanks(q, 3);
        CHECK.fine(q, "street(1) of 60 bytes", q.street(1), 0);
        CHECK.refused(q, "street(1) of none", q.street(1), 1);
        CHECK.due("feed", q.feed(0, 0, 0, 0, 0), 20);
        CHECK.fine(q, "street(0) of 20 bytes", q.street(0), 0);
        CHECK.due("feed behind street(0)", q.feed(0, 0, 0, 0, 0), 20);
    }

    /** With STATUS 1 the tape and the STREET stay as they were. */
    private static void streetRefusedKeepsTape() {
        FootQuarrel q = Check.withStreet("foot 2; house a wide 5;");
        Check.feed(q, "foot 6; house b wide 7; house c wide 8;");
        CHECK.refused(q, "street(41) of 40 bytes", q.street(41), 1);
        CHECK.refused(q, "street(-1)", q.street(-1), 1);
        CHECK.due("the old HOUSES", q.told(0), 1);
        CHECK.due("the old FOOT", q.told(3), 2);
        CHECK.due("feed goes on behind", q.feed(BLANKS, BLANKS, BLANKS, BLANKS, BLANKS), 60);
        CHECK.fine(q, "street(39)", q.street(39), 0);
        CHECK.due("the new HOUSES", q.told(0), 2);
        CHECK.due("the new FOOT", q.told(3), 6);
    }

    /** "9: the old one stays"; the tape is empty, too. */
    private static void streetFaultEmptiesTape() {
        FootQuarrel q = Check.withStreet("foot 2; house a wide 5; person p in a;");
        Check.feed(q, "foot 6; house b wide 7; house c wide 8");
        CHECK.refused(q, "street with a FAULT", q.street(38), 9);
        CHECK.due("the old HOUSES", q.told(0), 1);
        CHECK.due("the old PEOPLE", q.told(1), 1);
        CHECK.due("the old FOOT", q.told(3), 2);
        CHECK.due("how WIDE", q.house(0, 0), 5);
        CHECK.refused(q, "street(1) of an empty tape", q.street(1), 1);
        CHECK.due("feed", q.feed(0, 0, 0, 0, 0), 20);
    }

    /** years: "Likewise the YEARS: how many STEPS (1: above 300, too; 9)". */
    private static void yearsLengths() {
        FootQuarrel q = new FootQuarrel();
        CHECK.refused(q, "years(1) of 0 bytes", q.years(1), 1);
        CHECK.refused(q, "years(-1) of 0 bytes", q.years(-1), 1);
        CHECK.fine(q, "years(0) of 0 bytes", q.years(0), 0);
        Check.feed(q, "rain;dry;rain;");
        CHECK.refused(q, "years(21) of 20 bytes", q.years(21), 1);
        CHECK.fine(q, "years(9), the first 9 alone", q.years(9), 2);
        Check.feed(q, Check.times(" ", 295) + "rain;" + Check.times(" ", 20));
        CHECK.refused(q, "years(301) of 320 bytes", q.years(301), 1);
        CHECK.refused(q, "years(320) of 320 bytes", q.years(320), 1);
        CHECK.refused(q, "years(-1) of 320 bytes", q.years(-1), 1);
        CHECK.refused(q, "years of the most", q.years(Integer.MAX_VALUE), 1);
        CHECK.refused(q, "years of the least number", q.years(Integer.MIN_VALUE), 1);
        CHECK.fine(q, "years(300) of 320 bytes", q.years(300), 1);
        blanks(q, 45);
        CHECK.refused(q, "years(900) of 900 bytes", q.years(900), 1);
        CHECK.fine(q, "years(299) of 900 bytes", q.years(299), 0);
    }

    private static void yearsEmptyAll() {
        FootQuarrel q = new FootQuarrel();
        blanks(q, 20);
        CHECK.fine(q, "years(2) of 400 bytes", q.years(2), 0);
        CHECK.refused(q, "years(1) of none", q.years(1), 1);
        CHECK.due("feed", q.feed(0, 0, 0, 0, 0), 20);
        CHECK.fine(q, "years(0) of 20 bytes", q.years(0), 0);
        CHECK.due("feed behind years(0)", q.feed(0, 0, 0, 0, 0), 20);
    }

    private static void yearsRefusedKeepTape() {
        FootQuarrel q = new FootQuarrel();
        Check.feed(q, "rain; dry;");
        q.years(10);
        Check.feed(q, "dry; dry; dry;");
        CHECK.refused(q, "years(21) of 20 bytes", q.years(21), 1);
        CHECK.fine(q, "the old YEARS", q.live(0), 2);
        CHECK.fine(q, "the tape as it was", q.years(14), 3);
        CHECK.fine(q, "the new YEARS", q.live(0), 3);
    }

    private static void yearsFaultEmptiesTape() {
        FootQuarrel q = new FootQuarrel();
        Check.feed(q, "rain; dry;");
        q.years(10);
        Check.feed(q, "dry; dry; dry; end;");
        CHECK.refused(q, "years with a FAULT", q.years(19), 9);
        CHECK.fine(q, "the old YEARS", q.live(0), 2);
        CHECK.refused(q, "years(1) of an empty tape", q.years(1), 1);
        CHECK.due("feed", q.feed(0, 0, 0, 0, 0), 20);
    }

    /** fault: "NONE .. ahead of any". */
    private static void faultAheadOfAny() {
        FootQuarrel q = new FootQuarrel();
        CHECK.due("fault(0) ahead of any", q.fault(0), -1);
        CHECK.due("fault(1) ahead of any", q.fault(1), -1);
        q.street(1);
        q.years(1);
        CHECK.due("fault(0) behind STATUS 1 alone", q.fault(0), -1);
        CHECK.due("fault(1) behind STATUS 1 alone", q.fault(1), -1);
    }

    /** "NONE for others". */
    private static void faultOfOthers() {
        FootQuarrel q = new FootQuarrel();
        Check.street(q, "foot 0;");
        CHECK.due("fault(0)", q.fault(0), 4);
        CHECK.due("fault(1)", q.fault(1), 5);
        for (int what : new int[] {-1, 2, Integer.MAX_VALUE, Integer.MIN_VALUE}) {
            CHECK.due("fault(" + what + ")", q.fault(what), -1);
        }
    }

    /** "what 0: the FAULT (0 without one), 1: its place (NONE without)". */
    private static void faultWithout() {
        FootQuarrel q = new FootQuarrel();
        q.street(0);
        CHECK.due("fault(0) of a STREET without one", q.fault(0), 0);
        CHECK.due("fault(1) of a STREET without one", q.fault(1), -1);
        FootQuarrel r = new FootQuarrel();
        r.years(0);
        CHECK.due("fault(0) of YEARS without one", r.fault(0), 0);
        CHECK.due("fault(1) of YEARS without one", r.fault(1), -1);
        Check.street(r, "$");
        CHECK.due("fault(0) at the first byte", r.fault(0), 1);
        CHECK.due("fault(1) at the first byte", r.fault(1), 0);
    }

    /** "Of the latest street() or years() with STATUS 0 or 9". */
    private static void faultOfStatusOne() {
        FootQuarrel q = new FootQuarrel();
        Check.street(q, "foot 0;");
        q.street(1);
        q.years(-1);
        CHECK.due("fault(0) behind STATUS 1", q.fault(0), 4);
        CHECK.due("fault(1) behind STATUS 1", q.fault(1), 5);
        q.street(0);
        q.street(1);
        q.years(-1);
        CHECK.due("fault(0) behind STATUS 0, then 1", q.fault(0), 0);
        CHECK.due("fault(1) behind STATUS 0, then 1", q.fault(1), -1);
    }

    private static void faultOfLatest() {
        FootQuarrel q = new FootQuarrel();
        Check.street(q, "foot 0;");
        Check.years(q, "rain; end;");
        CHECK.due("fault(0) of YEARS behind a STREET", q.fault(0), 2);
        CHECK.due("fault(1) of YEARS behind a STREET", q.fault(1), 6);
        Check.street(q, "foot 1; foot 1;");
        CHECK.due("fault(0) of a STREET behind YEARS", q.fault(0), 5);
        CHECK.due("fault(1) of a STREET behind YEARS", q.fault(1), 8);
        Check.years(q, "rain;");
        CHECK.due("fault(0) of good YEARS behind it", q.fault(0), 0);
        CHECK.due("fault(1) of good YEARS behind it", q.fault(1), -1);
    }
}
