/**
 * A row of houses whose walls move by a foot toward whoever shouts.
 * Words in capitals are those of the document (../shared/DOC.md).
 */
public final class FootQuarrel {
    public static final int NONE = -1;

    // The numbers of STATUS.
    private static final int FINE = 0;
    private static final int NO_SUCH = 1;
    private static final int MISSING = 2;
    private static final int NO_PLACE = 3;
    private static final int TOO_MANY = 4;
    private static final int BAD_NUMBER = 5;
    private static final int NOTHING = 6;
    private static final int CANNOT_BE = 7;
    private static final int UNLIKE = 8;
    private static final int FAULTY = 9;

    // The kinds of FAULTS.
    private static final int FAULT_TOKEN = 1;
    private static final int FAULT_STAND = 2;
    private static final int FAULT_NAME = 3;
    private static final int FAULT_NUMBER = 4;
    private static final int FAULT_AGAIN = 5;
    private static final int FAULT_MANY = 6;
    private static final int FAULT_DEEP = 7;

    // The words that are no NAME; the number of each is its place in this row.
    private static final String WORDS = "foot calm odds house wide person in temper hears voice pay peace say sorry night rain dry any when angry raining loop end stop ";
    private static final int WORD_COUNT = 24;
    private static final int FOOT = 0;
    private static final int CALM = 1;
    private static final int ODDS = 2;
    private static final int HOUSE = 3;
    private static final int WIDE = 4;
    private static final int PERSON = 5;
    private static final int IN = 6;
    private static final int TEMPER = 7;
    private static final int PEACE = 11;
    private static final int SAY = 12;
    private static final int SORRY = 13;
    private static final int NIGHT = 14;
    private static final int RAIN = 15;
    private static final int DRY = 16;
    private static final int ANY = 17;
    private static final int WHEN = 18;
    private static final int ANGRY = 19;
    private static final int RAINING = 20;
    private static final int LOOP = 21;
    private static final int END = 22;
    private static final int STOP = 23;

    private static final int TRAYS = 4;
    private static final int TAPE = 900;
    private static final int YEARS_TEXT = 300;
    private static final int HOUSES = 6;
    private static final int PEOPLE = 8;
    private static final int QUARRELS = 20;
    private static final int MARKS = 3;
    private static final int LAST_DAY = 9999;
    private static final int LAST_SEED = 9999;
    private static final int TURNS = 4;
    private static final int WET_DAYS = 12;
    private static final int PLACES = 12;
    private static final int SIXTEENTHS = 16;

    // TEMPER, HEARS, VOICE and PAY are told of a PERSON as 1 to 4; their WORDS have that order, too.
    private static final int TRAITS = 4;
    private static final int[] TRAIT_LEAST = {0, 0, 0, 1, 0};
    private static final int[] TRAIT_MOST = {0, 30, 9, 9, 99};

    // A DAY's rows of at most 3 SHOUTS, by how many more go to one side than to the other.
    private static final int DAY_SHOUTS = 3;
    private static final int NO_ROW = 4;
    private static final int[] ROWS = {3, 4, 1, 1};
    // Of those the ones that begin in the left HOUSE, from 3 to the left up to 3 to the right.
    private static final int[] LEFT_FIRST = {1, 1, 3, 1, 1, 0, 0};

    private final Tray[] trays;
    private final byte[] tape;
    private final Reader reader;
    private final Street[] marks;
    private final Life life;
    private final Life trial;
    // The spare one takes a STREET that is read or tried, so that the one in use stays whole.
    private Street street;
    private Street spare;
    private int tapeLength;
    private int markCount;
    private int status;
    private int faultKind;
    private int faultPlace;
    private long top;
    private long bottom;

    public FootQuarrel() {
        trays = new Tray[TRAYS];
        for (int i = 0; i < TRAYS; i++) {
            trays[i] = new Tray();
        }
        tape = new byte[TAPE];
        reader = new Reader(tape);
        marks = new Street[MARKS];
        for (int i = 0; i < MARKS; i++) {
            marks[i] = new Street();
        }
        life = new Life();
        trial = new Life();
        street = new Street();
        spare = new Street();
        faultKind = NONE;
        faultPlace = NONE;
        bottom = 1;
    }

    public int status() {
        return status;
    }

    public long top() {
        return top;
    }

    public long bottom() {
        return bottom;
    }

    // ---- TRAYS

    public boolean tray(int tray, int sort, int many) {
        if (!isTray(tray) || !isWithin(sort, 0, 3) || !isWithin(many, 0, Tray.MOST)) {
            return deny(NO_SUCH);
        }
        trays[tray].renew(sort, many);
        return grant();
    }

    public boolean write(int tray, int place, long v) {
        int why = cellStatus(tray, place);
        if (why != FINE) {
            return deny(why);
        }
        trays[tray].put(place, v);
        return grant();
    }

    public long read(int tray, int place) {
        int why = cellStatus(tray, place);
        if (why != FINE) {
            return refuse(why);
        }
        status = FINE;
        return trays[tray].cells[place];
    }

    public boolean pour(int from, int place, int to, int at, int many) {
        if (!isTray(from) || !isTray(to) || place < 0 || at < 0 || many < 0) {
            return deny(NO_SUCH);
        }
        Tray source = trays[from];
        Tray target = trays[to];
        if (source.isMissing() || target.isMissing()) {
            return deny(MISSING);
        }
        if (source.sort != target.sort) {
            return deny(UNLIKE);
        }
        if (!source.spans(place, many) || !target.spans(at, many)) {
            return deny(NO_PLACE);
        }
        System.arraycopy(source.cells, place, target.cells, at, many);
        return grant();
    }

    // ---- texts

    public int feed(int a, int b, int c, int d, int e) {
        if (tapeLength + 20 > TAPE) {
            return NONE;
        }
        feedOne(a);
        feedOne(b);
        feedOne(c);
        feedOne(d);
        feedOne(e);
        return tapeLength;
    }

    public int street(int n) {
        if (!isWithin(n, 0, tapeLength)) {
            return refuse(NO_SUCH);
        }
        StreetText text = new StreetText(reader, spare);
        boolean good = text.take(n);
        endText();
        if (!good) {
            return refuse(FAULTY);
        }
        Street old = street;
        street = spare;
        spare = old;
        return answer(street.peopleCount);
    }

    public int years(int n) {
        if (!isWithin(n, 0, tapeLength) || n > YEARS_TEXT) {
            return refuse(NO_SUCH);
        }
        YearsText text = new YearsText(reader, street, spare.years);
        boolean good = text.take(n);
        endText();
        if (!good) {
            return refuse(FAULTY);
        }
        street.years.copyFrom(spare.years);
        return answer(street.years.steps);
    }

    public int fault(int what) {
        if (what == 0) {
            return faultKind;
        }
        return what == 1 ? faultPlace : NONE;
    }

    public int told(int what) {
        switch (what) {
            case 0:
                return answer(street.houseCount);
            case 1:
                return answer(street.peopleCount);
            case 2:
                return answer(street.kept);
            case 3:
                return answer(street.foot);
            case 4:
                return answer(street.calm);
            case 5:
                return answer(street.odds);
            case 6:
                return answer(street.day);
            case 7:
                return answer(oneIf(street.raining));
            case 8:
                return answer(street.angrySet());
            case 9:
                return answer(street.peace);
            case 10:
                return answer(street.landlessSet());
            case 11:
                return answer(street.said);
            case 12:
                return answer(street.shouts);
            default:
                return refuse(NO_SUCH);
        }
    }

    public int house(int house, int what) {
        if (!isHouse(house)) {
            return refuse(NO_SUCH);
        }
        House asked = street.houses[house];
        switch (what) {
            case 0:
                return answer(asked.wide);
            case 1:
                return answer(asked.toldWide);
            case 2:
                return answer(street.livingIn(house));
            case 3:
                return answer(asked.lost);
            default:
                return refuse(NO_SUCH);
        }
    }

    public int wall(int wall) {
        if (!isWall(wall)) {
            return refuse(NO_SUCH);
        }
        return answer(street.wallPlace(wall));
    }

    public int person(int person, int what) {
        if (!isPerson(person)) {
            return refuse(NO_SUCH);
        }
        Person asked = street.people[person];
        switch (what) {
            case 0:
                return answer(asked.home);
            case 1:
                return answer(asked.temper);
            case 2:
                return answer(asked.ears);
            case 3:
                return answer(asked.voice);
            case 4:
                return answer(asked.pay);
            case 5:
                return answer(asked.anger);
            case 6:
                return answer(asked.shouts);
            default:
                return refuse(NO_SUCH);
        }
    }

    public int quarrel(int k, int what) {
        if (!isWithin(k, 0, street.kept - 1)) {
            return refuse(NO_SUCH);
        }
        Quarrel asked = street.latest(k);
        switch (what) {
            case 0:
                return answer(asked.day);
            case 1:
                return answer(asked.wall);
            case 2:
                return answer(asked.speaker);
            case 3:
                return answer(asked.hearer);
            case 4:
                return answer(asked.shouts);
            case 5:
                return answer(asked.feet);
            case 6:
                return answer(oneIf(asked.halved));
            default:
                return refuse(NO_SUCH);
        }
    }

    public int near(int a, int b) {
        if (!areTwo(a, b)) {
            return refuse(NO_SUCH);
        }
        return answer(oneIf(street.sharedWall(a, b) != NONE));
    }

    public int neighbours(int person) {
        if (!isPerson(person)) {
            return refuse(NO_SUCH);
        }
        return answer(street.neighbourSet(person));
    }

    // ---- what is done

    public int say(int person, int other) {
        int why = pairStatus(person, other);
        if (why != FINE) {
            return refuse(why);
        }
        return answer(street.utter(person, other));
    }

    public int sorry(int k) {
        if (!isWithin(k, 0, street.kept - 1)) {
            return refuse(NO_SUCH);
        }
        if (!street.canRegret(k)) {
            return refuse(CANNOT_BE);
        }
        return answer(street.regret(k));
    }

    public int night(int many) {
        if (!isWithin(many, 1, 99)) {
            return refuse(NO_SUCH);
        }
        if (street.day + many > LAST_DAY) {
            return refuse(TOO_MANY);
        }
        street.sleep(many);
        return answer(street.angrySet());
    }

    public boolean rain(boolean is) {
        if (street.raining == is) {
            return deny(CANNOT_BE);
        }
        street.raining = is;
        return grant();
    }

    public boolean peace(int wall, boolean is) {
        if (!isWall(wall)) {
            return deny(NO_SUCH);
        }
        if (street.isAtPeace(wall) == is) {
            return deny(CANNOT_BE);
        }
        street.peace ^= 1 << wall;
        return grant();
    }

    public int move(int person, int house) {
        if (!isPerson(person) || !isHouse(house)) {
            return refuse(NO_SUCH);
        }
        Person mover = street.people[person];
        int old = mover.home;
        if (old == house) {
            return refuse(CANNOT_BE);
        }
        mover.home = house;
        return answer(old);
    }

    public boolean change(int person, int what, int much) {
        if (!isPerson(person) || !isWithin(what, 1, TRAITS)
                || !isWithin(much, TRAIT_LEAST[what], TRAIT_MOST[what])) {
            return deny(NO_SUCH);
        }
        street.people[person].setTrait(what, much);
        return grant();
    }

    public boolean rule(int foot) {
        if (!isWithin(foot, 1, 9)) {
            return deny(NO_SUCH);
        }
        street.foot = foot;
        return grant();
    }

    public int survey(int wall) {
        if (!isWall(wall)) {
            return refuse(NO_SUCH);
        }
        return answer(street.push(wall, street.toldPlace(wall) - street.wallPlace(wall)));
    }

    public int soothe(int person) {
        if (!isPerson(person)) {
            return refuse(NO_SUCH);
        }
        int anger = street.people[person].anger;
        street.people[person].anger = 0;
        return answer(anger);
    }

    // ---- what would be

    public int loud(int person) {
        if (!isPerson(person)) {
            return refuse(NO_SUCH);
        }
        return answer(street.loudnessOf(person));
    }

    public int hears(int person, int other) {
        if (!areTwo(person, other)) {
            return refuse(NO_SUCH);
        }
        return answer(oneIf(street.people[person].catches(street.loudnessOf(other))));
    }

    public int heardBy(int person) {
        if (!isPerson(person)) {
            return refuse(NO_SUCH);
        }
        return answer(street.hearerSet(person));
    }

    public int shoutsBy(int person, int other) {
        int why = pairStatus(person, other);
        if (why != FINE) {
            return refuse(why);
        }
        return answer(street.tryOut(person, other).speak(0));
    }

    public int gainBy(int person, int other) {
        int why = pairStatus(person, other);
        if (why != FINE) {
            return refuse(why);
        }
        return answer(street.gain(person, other));
    }

    public int bestTo(int person) {
        if (!isPerson(person)) {
            return refuse(NO_SUCH);
        }
        int best = NONE;
        int most = 0;
        for (int other = 0; other < street.peopleCount; other++) {
            if (street.sharedWall(person, other) != NONE) {
                int gain = street.gain(person, other);
                if (gain > most) {
                    most = gain;
                    best = other;
                }
            }
        }
        return best == NONE ? refuse(NOTHING) : answer(best);
    }

    public int dangers(int person) {
        if (!isPerson(person)) {
            return refuse(NO_SUCH);
        }
        int set = 0;
        for (int other = 0; other < street.peopleCount; other++) {
            if (street.wouldProvoke(other, person)) {
                set |= 1 << other;
            }
        }
        return answer(set);
    }

    public int quiet(int wall) {
        if (!isWall(wall)) {
            return refuse(NO_SUCH);
        }
        boolean still = true;
        for (int one = 0; one < street.peopleCount; one++) {
            for (int other = 0; other < street.peopleCount; other++) {
                if (street.sharedWall(one, other) == wall && street.wouldProvoke(one, other)) {
                    still = false;
                }
            }
        }
        return answer(oneIf(still));
    }

    public int bait(int person, int other) {
        int why = pairStatus(person, other);
        if (why != FINE) {
            return refuse(why);
        }
        int loud = street.loudnessOf(person);
        Person baited = street.people[other];
        if (!baited.catches(loud)) {
            return refuse(NOTHING);
        }
        for (int often = 1; often <= 99; often++) {
            if (baited.anger + often * loud > baited.temper) {
                return answer(often);
            }
        }
        return refuse(NOTHING);
    }

    public int leastVoice(int person, int other) {
        int why = pairStatus(person, other);
        if (why != FINE) {
            return refuse(why);
        }
        for (int voice = 1; voice <= 9; voice++) {
            if (street.people[other].wouldShout(street.loudness(voice))) {
                return answer(voice);
            }
        }
        return refuse(NOTHING);
    }

    public int angerIn(int person, int nights) {
        if (!isPerson(person) || !isWithin(nights, 0, 99)) {
            return refuse(NO_SUCH);
        }
        return answer(street.angerBehind(person, nights));
    }

    public int calmIn() {
        for (int nights = 0; nights <= 99; nights++) {
            boolean calm = true;
            for (int i = 0; i < street.peopleCount; i++) {
                if (street.angerBehind(i, nights) > 0) {
                    calm = false;
                }
            }
            if (calm) {
                return answer(nights);
            }
        }
        return refuse(NOTHING);
    }

    public int hire(int person) {
        if (!isPerson(person)) {
            return refuse(NO_SUCH);
        }
        int set = street.cheapestSet(person);
        return set == 0 ? refuse(NOTHING) : answer(street.payOf(set));
    }

    public int hireSet(int person) {
        if (!isPerson(person)) {
            return refuse(NO_SUCH);
        }
        int set = street.cheapestSet(person);
        return set == 0 ? refuse(NOTHING) : answer(set);
    }

    // ---- games

    public int game(int person, int other, int turns) {
        int why = gameStatus(person, other, turns, 0);
        if (why != FINE) {
            return refuse(why);
        }
        Spat spat = street.tryOut(person, other);
        int now = spat.wide[0];
        return answer(bestPlay(spat, 0, turns) - now);
    }

    public int moveOf(int person, int other, int turns) {
        int why = gameStatus(person, other, turns, 1);
        if (why != FINE) {
            return refuse(why);
        }
        int silent = bestPlay(street.tryOut(person, other), 1, turns);
        Spat spat = street.tryOut(person, other);
        spat.speak(0);
        return answer(oneIf(bestPlay(spat, 1, turns) > silent));
    }

    // ---- land

    public int widest() {
        int best = NONE;
        int most = -1;
        for (int i = 0; i < street.houseCount; i++) {
            if (street.houses[i].wide > most) {
                most = street.houses[i].wide;
                best = i;
            }
        }
        return best == NONE ? refuse(NOTHING) : answer(best);
    }

    public int loser() {
        int best = NONE;
        int most = 0;
        for (int i = 0; i < street.houseCount; i++) {
            if (street.houses[i].lost > most) {
                most = street.houses[i].lost;
                best = i;
            }
        }
        return best == NONE ? refuse(NOTHING) : answer(best);
    }

    public int loudest() {
        int best = NONE;
        int most = 0;
        for (int i = 0; i < street.peopleCount; i++) {
            if (street.people[i].shouts > most) {
                most = street.people[i].shouts;
                best = i;
            }
        }
        return best == NONE ? refuse(NOTHING) : answer(best);
    }

    public boolean share(int house) {
        if (!isHouse(house)) {
            return deny(NO_SUCH);
        }
        int land = 0;
        for (int i = 0; i < street.houseCount; i++) {
            land += street.houses[i].wide;
        }
        if (land == 0) {
            return deny(NOTHING);
        }
        tellFraction(street.houses[house].wide, land);
        return grant();
    }

    public int began(int wall) {
        if (!isWall(wall)) {
            return refuse(NO_SUCH);
        }
        for (int k = street.kept - 1; k >= 0; k--) {
            if (street.latest(k).wall == wall) {
                return answer(street.latest(k).speaker);
            }
        }
        return refuse(NOTHING);
    }

    public int quarrelsAt(int wall) {
        if (!isWall(wall)) {
            return refuse(NO_SUCH);
        }
        int many = 0;
        for (int k = 0; k < street.kept; k++) {
            if (street.latest(k).wall == wall) {
                many++;
            }
        }
        return answer(many);
    }

    // ---- places of a wall

    public long ways(int tray, int n) {
        int why = placesStatus(tray, n);
        if (why != FINE) {
            return refuse(why);
        }
        long many = 1;
        for (int i = 1; i < n; i++) {
            many *= rowsFor(shoutsBetween(trays[tray], i));
        }
        status = FINE;
        return many;
    }

    public int fewest(int tray, int n) {
        int why = placesStatus(tray, n);
        if (why != FINE) {
            return refuse(why);
        }
        int few = 0;
        for (int i = 1; i < n; i++) {
            int shouts = shoutsBetween(trays[tray], i);
            if (shouts == NO_ROW) {
                return refuse(NOTHING);
            }
            few += Math.abs(shouts);
        }
        return answer(few);
    }

    public long blame(int tray, int n) {
        int why = placesStatus(tray, n);
        if (why != FINE) {
            return refuse(why);
        }
        // From the last DAY back, as a DAY without a SHOUT hands the blame on to the next one.
        long behind = 1;
        long left = 0;
        for (int i = n - 1; i >= 1; i--) {
            int shouts = shoutsBetween(trays[tray], i);
            long handedOn = shouts == 0 ? left : 0;
            left = leftFirstFor(shouts) * behind + handedOn;
            behind *= rowsFor(shouts);
        }
        status = FINE;
        return left;
    }

    public int copyWalls(int tray) {
        if (!isTray(tray)) {
            return refuse(NO_SUCH);
        }
        Tray target = trays[tray];
        if (target.isMissing()) {
            return refuse(MISSING);
        }
        int many = street.wallCount();
        if (!target.spans(0, many)) {
            return refuse(NO_PLACE);
        }
        for (int i = 0; i < many; i++) {
            target.put(i, street.wallPlace(i));
        }
        return answer(many);
    }

    public boolean wet(int n, int k) {
        if (!isWithin(n, 0, WET_DAYS) || !isWithin(k, 0, WET_DAYS)) {
            return deny(NO_SUCH);
        }
        long wetWays = 0;
        long choices = 1;
        for (int i = 0; i <= n; i++) {
            if (i >= k) {
                wetWays += choices * power(street.odds, i) * power(SIXTEENTHS - street.odds, n - i);
            }
            choices = choices * (n - i) / (i + 1);
        }
        tellFraction(wetWays, power(SIXTEENTHS, n));
        return grant();
    }

    // ---- YEARS

    public int live(int seed) {
        if (!isWithin(seed, 0, LAST_SEED)) {
            return refuse(NO_SUCH);
        }
        if (!street.years.areTold) {
            return refuse(NOTHING);
        }
        life.pass(street, seed);
        return answer(life.done);
    }

    public int lived(int what) {
        if (!isWithin(what, 0, 4)) {
            return refuse(NO_SUCH);
        }
        if (!life.isOver) {
            return refuse(NOTHING);
        }
        switch (what) {
            case 0:
                return answer(life.missed);
            case 1:
                return answer(life.nights);
            case 2:
                return answer(life.said);
            case 3:
                return answer(life.shouts);
            default:
                return answer(oneIf(life.isCutOff));
        }
    }

    public boolean mean(int house, int seed, int many) {
        if (!isHouse(house) || !isWithin(seed, 0, LAST_SEED) || !isWithin(many, 1, 20)
                || seed + many - 1 > LAST_SEED) {
            return deny(NO_SUCH);
        }
        if (!street.years.areTold) {
            return deny(NOTHING);
        }
        int sum = 0;
        for (int i = 0; i < many; i++) {
            spare.copyFrom(street);
            trial.pass(spare, seed + i);
            sum += spare.houses[house].wide;
        }
        tellFraction(sum, many);
        return grant();
    }

    // ---- MARKS

    public int mark() {
        if (markCount >= MARKS) {
            return refuse(TOO_MANY);
        }
        marks[markCount].copyFrom(street);
        markCount++;
        return answer(markCount);
    }

    public int undo() {
        if (markCount == 0) {
            return refuse(NOTHING);
        }
        markCount--;
        street.copyFrom(marks[markCount]);
        return answer(markCount);
    }

    // ---- what the calls share

    private int answer(int value) {
        status = FINE;
        return value;
    }

    private int refuse(int why) {
        status = why;
        return NONE;
    }

    private boolean grant() {
        status = FINE;
        return true;
    }

    private boolean deny(int why) {
        status = why;
        return false;
    }

    private static boolean isWithin(int number, int least, int most) {
        return number >= least && number <= most;
    }

    private static int oneIf(boolean is) {
        return is ? 1 : 0;
    }

    private static boolean isTray(int tray) {
        return isWithin(tray, 0, TRAYS - 1);
    }

    private boolean isHouse(int house) {
        return isWithin(house, 0, street.houseCount - 1);
    }

    private boolean isWall(int wall) {
        return isWithin(wall, 0, street.wallCount() - 1);
    }

    private boolean isPerson(int person) {
        return isWithin(person, 0, street.peopleCount - 1);
    }

    private boolean areTwo(int one, int other) {
        return isPerson(one) && isPerson(other) && one != other;
    }

    private int pairStatus(int one, int other) {
        if (!areTwo(one, other)) {
            return NO_SUCH;
        }
        return street.sharedWall(one, other) == NONE ? CANNOT_BE : FINE;
    }

    private int gameStatus(int one, int other, int turns, int fewestTurns) {
        return isWithin(turns, fewestTurns, TURNS) ? pairStatus(one, other) : NO_SUCH;
    }

    private int cellStatus(int tray, int place) {
        if (!isTray(tray)) {
            return NO_SUCH;
        }
        if (trays[tray].isMissing()) {
            return MISSING;
        }
        return isWithin(place, 0, trays[tray].size - 1) ? FINE : NO_PLACE;
    }

    private int placesStatus(int tray, int n) {
        if (!isTray(tray) || !isWithin(n, 1, PLACES)) {
            return NO_SUCH;
        }
        Tray places = trays[tray];
        if (places.isMissing()) {
            return MISSING;
        }
        if (!places.spans(0, n)) {
            return NO_PLACE;
        }
        for (int i = 0; i < n; i++) {
            if (places.cells[i] < 0) {
                return BAD_NUMBER;
            }
        }
        return FINE;
    }

    /** By how many SHOUTS more the WALL went to the right than to the left ahead of a place; NO_ROW if it can't be. */
    private int shoutsBetween(Tray places, int at) {
        long feet = places.cells[at] - places.cells[at - 1];
        for (int shouts = -DAY_SHOUTS; shouts <= DAY_SHOUTS; shouts++) {
            if (shouts * street.foot == feet) {
                return shouts;
            }
        }
        return NO_ROW;
    }

    private static long rowsFor(int shouts) {
        return shouts == NO_ROW ? 0 : ROWS[Math.abs(shouts)];
    }

    private static long leftFirstFor(int shouts) {
        return shouts == NO_ROW ? 0 : LEFT_FIRST[shouts + DAY_SHOUTS];
    }

    /** How WIDE the first one's HOUSE is at the end of a GAME. */
    private static int bestPlay(Spat spat, int turn, int turns) {
        if (turn >= turns || turn >= TURNS) {
            return spat.wide[0];
        }
        int side = turn % 2;
        int silent = bestPlay(spat, turn + 1, turns);
        int firstAnger = spat.sides[0].anger;
        int secondAnger = spat.sides[1].anger;
        int firstWide = spat.wide[0];
        int secondWide = spat.wide[1];
        spat.speak(side);
        int spoken = bestPlay(spat, turn + 1, turns);
        spat.sides[0].anger = firstAnger;
        spat.sides[1].anger = secondAnger;
        spat.wide[0] = firstWide;
        spat.wide[1] = secondWide;
        return side == 0 ? Math.max(silent, spoken) : Math.min(silent, spoken);
    }

    private void feedOne(int four) {
        for (int shift = 24; shift >= 0; shift -= 8) {
            tape[tapeLength] = (byte) (four >> shift);
            tapeLength++;
        }
    }

    private void endText() {
        tapeLength = 0;
        faultKind = reader.fault;
        faultPlace = reader.place;
    }

    /** The bottom is above 0. */
    private void tellFraction(long above, long below) {
        long divisor = commonDivisor(above, below);
        top = above / divisor;
        bottom = below / divisor;
    }

    /** Of one number that isn't below 0 and one above 0, so that it is above 0. */
    private static long commonDivisor(long one, long other) {
        long rest = one;
        long divisor = other;
        for (int i = 0; i < 100 && rest != 0; i++) {
            long next = divisor % rest;
            divisor = rest;
            rest = next;
        }
        return divisor;
    }

    private static long power(int base, int many) {
        long product = 1;
        for (int i = 0; i < many; i++) {
            product *= base;
        }
        return product;
    }

    private static final class Tray {
        static final int MOST = 60;

        final long[] cells = new long[MOST];
        int size = NONE;
        int sort;

        boolean isMissing() {
            return size == NONE;
        }

        void renew(int newSort, int many) {
            sort = newSort;
            size = many;
            for (int i = 0; i < many; i++) {
                cells[i] = 0;
            }
        }

        boolean spans(int place, int many) {
            return place <= size && many <= size - place;
        }

        void put(int place, long v) {
            switch (sort) {
                case 0:
                    cells[place] = (byte) v;
                    break;
                case 1:
                    cells[place] = (short) v;
                    break;
                case 2:
                    cells[place] = (int) v;
                    break;
                default:
                    cells[place] = v;
                    break;
            }
        }
    }

    private static final class House {
        long name;
        int toldWide;
        int wide;
        int lost;

        void build(long newName, int newWide) {
            name = newName;
            toldWide = newWide;
            wide = newWide;
            lost = 0;
        }

        void copyFrom(House other) {
            name = other.name;
            toldWide = other.toldWide;
            wide = other.wide;
            lost = other.lost;
        }
    }

    private static final class Person {
        long name;
        int home;
        int temper;
        int ears;
        int voice;
        int pay;
        int anger;
        int shouts;

        void settle(long newName, int newHome) {
            name = newName;
            home = newHome;
            temper = 10;
            ears = 5;
            voice = 5;
            pay = 0;
            anger = 0;
            shouts = 0;
        }

        void setTrait(int what, int much) {
            switch (what) {
                case 1:
                    temper = much;
                    break;
                case 2:
                    ears = much;
                    break;
                case 3:
                    voice = much;
                    break;
                default:
                    pay = much;
                    break;
            }
        }

        void copyFrom(Person other) {
            name = other.name;
            home = other.home;
            temper = other.temper;
            ears = other.ears;
            voice = other.voice;
            pay = other.pay;
            anger = other.anger;
            shouts = other.shouts;
        }

        boolean catches(int loud) {
            return loud + ears >= 10;
        }

        boolean wouldShout(int loud) {
            return catches(loud) && anger + loud > temper;
        }

        /** He is told something so LOUD: whether he SHOUTS. */
        boolean isProvoked(int loud) {
            if (!catches(loud)) {
                return false;
            }
            anger += loud;
            if (anger <= temper) {
                return false;
            }
            anger = 0;
            shouts++;
            return true;
        }
    }

    private static final class Quarrel {
        int day;
        int wall;
        int speaker;
        int hearer;
        int shouts;
        int feet;
        boolean halved;

        void copyFrom(Quarrel other) {
            day = other.day;
            wall = other.wall;
            speaker = other.speaker;
            hearer = other.hearer;
            shouts = other.shouts;
            feet = other.feet;
            halved = other.halved;
        }
    }

    /** Two NEIGHBOURS and their land apart from the STREET, so that a SAY can be tried without being done. */
    private static final class Spat {
        private static final int MOST_SHOUTS = 6;
        private static final int SHOUT_VOICE = 9;

        final Person[] sides = {new Person(), new Person()};
        final int[] wide = new int[2];
        final int[] lost = new int[2];
        int foot;
        boolean raining;

        /** One side says something to the other: how many SHOUTS. */
        int speak(int side) {
            int teller = side;
            int loud = loudness(sides[side].voice, raining);
            for (int shouts = 0; shouts < MOST_SHOUTS; shouts++) {
                int hearer = 1 - teller;
                if (!sides[hearer].isProvoked(loud)) {
                    return shouts;
                }
                giveWay(hearer);
                teller = hearer;
                loud = loudness(SHOUT_VOICE, raining);
            }
            return MOST_SHOUTS;
        }

        private void giveWay(int side) {
            int feet = Math.min(foot, wide[side]);
            wide[side] -= feet;
            lost[side] += feet;
            wide[1 - side] += feet;
        }

        static int loudness(int voice, boolean raining) {
            return raining ? Math.max(0, voice - 2) : voice;
        }
    }

    /** A STREET with all that became of it, and its YEARS. */
    private static final class Street {
        final House[] houses = new House[HOUSES];
        final Person[] people = new Person[PEOPLE];
        final Quarrel[] quarrels = new Quarrel[QUARRELS];
        final Years years = new Years();
        final Spat spat = new Spat();
        int houseCount;
        int peopleCount;
        int kept;
        int newest;
        int foot;
        int calm;
        int odds;
        int day;
        int peace;
        int said;
        int shouts;
        boolean raining;

        Street() {
            for (int i = 0; i < HOUSES; i++) {
                houses[i] = new House();
            }
            for (int i = 0; i < PEOPLE; i++) {
                people[i] = new Person();
            }
            for (int i = 0; i < QUARRELS; i++) {
                quarrels[i] = new Quarrel();
            }
            clear();
        }

        void clear() {
            houseCount = 0;
            peopleCount = 0;
            kept = 0;
            newest = 0;
            foot = 1;
            calm = 2;
            odds = 4;
            day = 0;
            peace = 0;
            said = 0;
            shouts = 0;
            raining = false;
            years.clear();
        }

        void copyFrom(Street other) {
            for (int i = 0; i < HOUSES; i++) {
                houses[i].copyFrom(other.houses[i]);
            }
            for (int i = 0; i < PEOPLE; i++) {
                people[i].copyFrom(other.people[i]);
            }
            for (int i = 0; i < QUARRELS; i++) {
                quarrels[i].copyFrom(other.quarrels[i]);
            }
            houseCount = other.houseCount;
            peopleCount = other.peopleCount;
            kept = other.kept;
            newest = other.newest;
            foot = other.foot;
            calm = other.calm;
            odds = other.odds;
            day = other.day;
            peace = other.peace;
            said = other.said;
            shouts = other.shouts;
            raining = other.raining;
            years.copyFrom(other.years);
        }

        int houseNamed(long name) {
            for (int i = 0; i < houseCount; i++) {
                if (houses[i].name == name) {
                    return i;
                }
            }
            return NONE;
        }

        int personNamed(long name) {
            for (int i = 0; i < peopleCount; i++) {
                if (people[i].name == name) {
                    return i;
                }
            }
            return NONE;
        }

        int wallCount() {
            return Math.max(0, houseCount - 1);
        }

        int wallPlace(int wall) {
            int feet = 0;
            for (int i = 0; i <= wall; i++) {
                feet += houses[i].wide;
            }
            return feet;
        }

        int toldPlace(int wall) {
            int feet = 0;
            for (int i = 0; i <= wall; i++) {
                feet += houses[i].toldWide;
            }
            return feet;
        }

        boolean isAtPeace(int wall) {
            return (peace >> wall & 1) == 1;
        }

        /** The WALL of two NEIGHBOURS; NONE if they are none. */
        int sharedWall(int one, int other) {
            int here = people[one].home;
            int there = people[other].home;
            if (Math.abs(here - there) != 1) {
                return NONE;
            }
            int wall = Math.min(here, there);
            return isAtPeace(wall) ? NONE : wall;
        }

        int neighbourSet(int person) {
            int set = 0;
            for (int i = 0; i < peopleCount; i++) {
                if (sharedWall(person, i) != NONE) {
                    set |= 1 << i;
                }
            }
            return set;
        }

        int hearerSet(int person) {
            int set = 0;
            for (int i = 0; i < peopleCount; i++) {
                if (i != person && people[i].catches(loudnessOf(person))) {
                    set |= 1 << i;
                }
            }
            return set;
        }

        int livingIn(int house) {
            int set = 0;
            for (int i = 0; i < peopleCount; i++) {
                if (people[i].home == house) {
                    set |= 1 << i;
                }
            }
            return set;
        }

        int angrySet() {
            int set = 0;
            for (int i = 0; i < peopleCount; i++) {
                if (people[i].anger > 0) {
                    set |= 1 << i;
                }
            }
            return set;
        }

        int landlessSet() {
            int set = 0;
            for (int i = 0; i < houseCount; i++) {
                if (houses[i].wide == 0) {
                    set |= 1 << i;
                }
            }
            return set;
        }

        int loudness(int voice) {
            return Spat.loudness(voice, raining);
        }

        int loudnessOf(int person) {
            return loudness(people[person].voice);
        }

        /** Whether one is a NEIGHBOUR by whose SAY the other would SHOUT. */
        boolean wouldProvoke(int one, int other) {
            return sharedWall(one, other) != NONE && people[other].wouldShout(loudnessOf(one));
        }

        /** The first side is the one, the second the other. */
        Spat tryOut(int one, int other) {
            spat.sides[0].copyFrom(people[one]);
            spat.sides[1].copyFrom(people[other]);
            spat.wide[0] = houses[people[one].home].wide;
            spat.wide[1] = houses[people[other].home].wide;
            spat.lost[0] = 0;
            spat.lost[1] = 0;
            spat.foot = foot;
            spat.raining = raining;
            return spat;
        }

        int gain(int one, int other) {
            tryOut(one, other).speak(0);
            return spat.wide[0] - houses[people[one].home].wide;
        }

        /** SAY of one to a NEIGHBOUR: how many SHOUTS. */
        int utter(int one, int other) {
            int wall = sharedWall(one, other);
            if (wall == NONE) {
                return 0;
            }
            int many = tryOut(one, other).speak(0);
            int placeAhead = wallPlace(wall);
            settleSide(0, one);
            settleSide(1, other);
            said++;
            shouts += many;
            if (many > 0) {
                keepQuarrel(wall, one, other, many, wallPlace(wall) - placeAhead);
            }
            return many;
        }

        private void settleSide(int side, int person) {
            people[person].copyFrom(spat.sides[side]);
            House home = houses[people[person].home];
            home.wide = spat.wide[side];
            home.lost += spat.lost[side];
        }

        private void keepQuarrel(int wall, int one, int other, int many, int feet) {
            newest = (newest + 1) % QUARRELS;
            kept = Math.min(kept + 1, QUARRELS);
            Quarrel made = quarrels[newest];
            made.day = day;
            made.wall = wall;
            made.speaker = one;
            made.hearer = other;
            made.shouts = many;
            made.feet = feet;
            made.halved = false;
        }

        Quarrel latest(int k) {
            return quarrels[Math.floorMod(newest - k, QUARRELS)];
        }

        boolean canRegret(int k) {
            return k < kept && latest(k).day == day && !latest(k).halved;
        }

        /** SORRY for a QUARREL: how many feet the WALL went back. */
        int regret(int k) {
            Quarrel regretted = latest(k);
            regretted.halved = true;
            return Math.abs(push(regretted.wall, -(regretted.feet / 2)));
        }

        /** A WALL goes to the right (below 0: to the left), as far as there is land: by how many feet. */
        int push(int wall, int feet) {
            House left = houses[wall];
            House right = houses[wall + 1];
            int goes = Math.max(-left.wide, Math.min(feet, right.wide));
            left.wide += goes;
            right.wide -= goes;
            return goes;
        }

        void sleep(int nights) {
            for (int i = 0; i < peopleCount; i++) {
                people[i].anger = angerBehind(i, nights);
            }
            day += nights;
        }

        int angerBehind(int person, int nights) {
            return Math.max(0, people[person].anger - nights * calm);
        }

        /** The set of HIRE; 0 if there is none. */
        int cheapestSet(int person) {
            int near = neighbourSet(person);
            int best = 0;
            for (int set = 1; set <= near; set++) {
                boolean ofNeighbours = (set & ~near) == 0;
                if (ofNeighbours && wouldProvokeTogether(set, person) && (best == 0 || isCheaper(set, best))) {
                    best = set;
                }
            }
            return best;
        }

        /** He hears no SHOUT ahead of his own first one, so that only his own anger matters. */
        private boolean wouldProvokeTogether(int set, int person) {
            Person target = people[person];
            int anger = target.anger;
            for (int i = 0; i < peopleCount; i++) {
                int loud = loudnessOf(i);
                if ((set >> i & 1) == 1 && target.catches(loud)) {
                    anger += loud;
                    if (anger > target.temper) {
                        return true;
                    }
                }
            }
            return false;
        }

        private boolean isCheaper(int set, int best) {
            int difference = payOf(set) - payOf(best);
            return difference < 0 || difference == 0 && Integer.bitCount(set) < Integer.bitCount(best);
        }

        int payOf(int set) {
            int pay = 0;
            for (int i = 0; i < peopleCount; i++) {
                if ((set >> i & 1) == 1) {
                    pay += people[i].pay;
                }
            }
            return pay;
        }
    }

    /** The STEPS of YEARS and their ends, in rows, as they stand in the text. */
    private static final class Years {
        static final int MOST_STEPS = 30;
        // Each STEP may have an end.
        static final int MOST_ENTRIES = 60;

        final int[] deed = new int[MOST_ENTRIES];
        final int[] test = new int[MOST_ENTRIES];
        final int[] one = new int[MOST_ENTRIES];
        final int[] other = new int[MOST_ENTRIES];
        final int[] sign = new int[MOST_ENTRIES];
        final int[] number = new int[MOST_ENTRIES];
        // Of a when or loop its end, of an end its when or loop.
        final int[] partner = new int[MOST_ENTRIES];
        int entries;
        int steps;
        boolean areTold;

        void clear() {
            entries = 0;
            steps = 0;
            areTold = false;
        }

        void copyFrom(Years source) {
            entries = source.entries;
            steps = source.steps;
            areTold = source.areTold;
            System.arraycopy(source.deed, 0, deed, 0, entries);
            System.arraycopy(source.test, 0, test, 0, entries);
            System.arraycopy(source.one, 0, one, 0, entries);
            System.arraycopy(source.other, 0, other, 0, entries);
            System.arraycopy(source.sign, 0, sign, 0, entries);
            System.arraycopy(source.number, 0, number, 0, entries);
            System.arraycopy(source.partner, 0, partner, 0, entries);
        }
    }

    /** One run through YEARS. */
    private static final class Life {
        private static final int MOST_DONE = 300;
        private static final int GUARD = 1000000;

        private final int[] roundsLeft = new int[Years.MOST_ENTRIES];
        private int drawn;
        private int drawnOne;
        private int drawnOther;
        int done;
        int missed;
        int nights;
        int said;
        int shouts;
        boolean isCutOff;
        boolean isOver;

        void pass(Street street, int seed) {
            drawn = seed;
            done = 0;
            missed = 0;
            nights = 0;
            said = 0;
            shouts = 0;
            isCutOff = false;
            isOver = true;
            Years years = street.years;
            int at = 0;
            for (int i = 0; i < GUARD && at < years.entries; i++) {
                if (years.deed[at] == END) {
                    at = behindEnd(years, at);
                } else if (done == MOST_DONE) {
                    isCutOff = true;
                    return;
                } else {
                    done++;
                    at = behindStep(street, at);
                }
            }
        }

        private int behindEnd(Years years, int at) {
            int beginning = years.partner[at];
            if (years.deed[beginning] == LOOP) {
                roundsLeft[beginning]--;
                if (roundsLeft[beginning] > 0) {
                    return beginning + 1;
                }
            }
            return at + 1;
        }

        /** The STEP is done: where it goes on. */
        private int behindStep(Street street, int at) {
            Years years = street.years;
            switch (years.deed[at]) {
                case SAY:
                    speak(street, years.one[at], years.other[at]);
                    break;
                case SORRY:
                    regret(street);
                    break;
                case NIGHT:
                    sleep(street, years.number[at]);
                    break;
                case ANY:
                    if (street.peopleCount == 0) {
                        missed++;
                    } else {
                        drawMeeting(street);
                        speak(street, drawnOne, drawnOther);
                    }
                    break;
                case RAIN:
                    turnWeather(street, true);
                    break;
                case DRY:
                    turnWeather(street, false);
                    break;
                case WHEN:
                    return holds(street, at) ? at + 1 : years.partner[at] + 1;
                case LOOP:
                    roundsLeft[at] = years.number[at];
                    break;
                case STOP:
                    return years.entries;
                default:
                    break;
            }
            return at + 1;
        }

        private boolean holds(Street street, int at) {
            Years years = street.years;
            if (years.test[at] == RAINING) {
                return street.raining;
            }
            int subject = years.one[at];
            int found = years.test[at] == ANGRY ? street.people[subject].anger : street.houses[subject].wide;
            int number = years.number[at];
            switch (years.sign[at]) {
                case '<':
                    return found < number;
                case '>':
                    return found > number;
                default:
                    return found == number;
            }
        }

        private void speak(Street street, int one, int other) {
            if (street.sharedWall(one, other) == NONE) {
                missed++;
                return;
            }
            said++;
            shouts += street.utter(one, other);
        }

        private void regret(Street street) {
            if (street.canRegret(0)) {
                street.regret(0);
            } else {
                missed++;
            }
        }

        private void sleep(Street street, int many) {
            if (street.day + many > LAST_DAY) {
                missed++;
                return;
            }
            nights += many;
            street.sleep(many);
        }

        private void turnWeather(Street street, boolean toRain) {
            if (street.raining == toRain) {
                missed++;
            }
            street.raining = toRain;
        }

        /** With one PERSON at least. */
        private void drawMeeting(Street street) {
            street.raining = draw(SIXTEENTHS) < street.odds;
            drawnOne = draw(street.peopleCount);
            drawnOther = draw(street.peopleCount);
        }

        /** By a number above 0. */
        private int draw(int by) {
            drawn = (drawn * 3067 + 11287) % 65536;
            return drawn / 8 % by;
        }
    }

    /** The TOKENS of a text, one after the other, and its first FAULT. */
    private static final class Reader {
        private static final int NO_TOKEN = 0;
        private static final int TEXT_END = 1;
        private static final int WORD_TOKEN = 2;
        private static final int NUMBER_TOKEN = 3;
        private static final int SIGN_TOKEN = 4;
        private static final int NAME_LETTERS = 8;
        private static final int NUMBER_DIGITS = 4;

        private final byte[] text;
        private final long[] reserved;
        private int length;
        private int next;
        private int kind;
        private int number;
        // Of a WORD of at most 8 letters, 5 bits for each; else 0.
        private long name;
        int start;
        int word;
        int sign;
        int fault;
        int place;

        Reader(byte[] bytes) {
            text = bytes;
            reserved = new long[WORD_COUNT];
            int at = 0;
            for (int i = 0; i < WORDS.length() && at < WORD_COUNT; i++) {
                if (WORDS.charAt(i) == ' ') {
                    at++;
                } else {
                    reserved[at] = withLetter(reserved[at], WORDS.charAt(i));
                }
            }
        }

        private static long withLetter(long name, int letter) {
            return name << 5 | letter - 'a' + 1;
        }

        void begin(int n) {
            length = Math.min(n, text.length);
            next = 0;
            fault = 0;
            place = NONE;
            advance();
        }

        void advance() {
            for (int i = next; i < length && isBlank(text[i]); i++) {
                next++;
            }
            start = next;
            word = NONE;
            sign = 0;
            name = 0;
            number = 0;
            kind = NO_TOKEN;
            if (start >= length) {
                kind = TEXT_END;
            } else if (isLetter(text[start])) {
                readWord();
            } else if (isDigit(text[start])) {
                readNumber();
            } else if (isSign(text[start])) {
                kind = SIGN_TOKEN;
                sign = text[start];
                next++;
            }
        }

        private void readWord() {
            for (int i = start; i < length && isLetter(text[i]); i++) {
                name = withLetter(name, text[i]);
                next++;
            }
            kind = WORD_TOKEN;
            if (next - start > NAME_LETTERS) {
                name = 0;
            }
            for (int i = 0; i < WORD_COUNT; i++) {
                if (reserved[i] == name) {
                    word = i;
                }
            }
        }

        private void readNumber() {
            for (int i = start; i < length && isDigit(text[i]); i++) {
                number = number * 10 + text[i] - '0';
                next++;
            }
            if (next - start <= NUMBER_DIGITS) {
                kind = NUMBER_TOKEN;
            }
        }

        private static boolean isBlank(int sign) {
            return sign == 10 || sign == 32;
        }

        private static boolean isLetter(int sign) {
            return sign >= 'a' && sign <= 'z';
        }

        private static boolean isDigit(int sign) {
            return sign >= '0' && sign <= '9';
        }

        private static boolean isSign(int sign) {
            return sign == ';' || isCompare(sign);
        }

        private static boolean isCompare(int sign) {
            return sign == '<' || sign == '>' || sign == '=';
        }

        boolean isAtEnd() {
            return kind == TEXT_END;
        }

        /** A FAULT at this TOKEN; that none begins so is the least kind. */
        boolean reject(int why) {
            fault = kind == NO_TOKEN ? FAULT_TOKEN : why;
            place = start;
            return false;
        }

        boolean takeWord(int wanted) {
            if (word != wanted) {
                return reject(FAULT_STAND);
            }
            advance();
            return true;
        }

        boolean takeStop() {
            if (sign != ';') {
                return reject(FAULT_STAND);
            }
            advance();
            return true;
        }

        /** '<', '>' or '='; NONE with a FAULT. */
        int takeCompare() {
            int taken = sign;
            if (!isCompare(taken)) {
                reject(FAULT_STAND);
                return NONE;
            }
            advance();
            return taken;
        }

        /** NONE with a FAULT. */
        int takeNumber(int least, int most) {
            int taken = number;
            if (kind != NUMBER_TOKEN) {
                reject(FAULT_STAND);
                return NONE;
            }
            if (!isWithin(taken, least, most)) {
                reject(FAULT_NUMBER);
                return NONE;
            }
            advance();
            return taken;
        }

        private boolean isName() {
            return kind == WORD_TOKEN && name != 0 && word == NONE;
        }

        /** 0 with a FAULT. */
        long takeNewName(Street street) {
            long taken = name;
            if (!isName()) {
                reject(FAULT_STAND);
                return 0;
            }
            if (street.houseNamed(taken) != NONE || street.personNamed(taken) != NONE) {
                reject(FAULT_NAME);
                return 0;
            }
            advance();
            return taken;
        }

        /** The HOUSE whose NAME stands here, not yet taken; NONE with a FAULT. */
        int seeHouse(Street street) {
            return seen(isName() ? street.houseNamed(name) : NONE);
        }

        /** The PERSON whose NAME stands here, not yet taken; NONE with a FAULT. */
        int seePerson(Street street) {
            return seen(isName() ? street.personNamed(name) : NONE);
        }

        private int seen(int found) {
            if (found == NONE) {
                reject(isName() ? FAULT_NAME : FAULT_STAND);
            }
            return found;
        }

        int takeHouse(Street street) {
            int taken = seeHouse(street);
            if (taken != NONE) {
                advance();
            }
            return taken;
        }

        int takePerson(Street street) {
            int taken = seePerson(street);
            if (taken != NONE) {
                advance();
            }
            return taken;
        }
    }

    /** A text that is to be a STREET. */
    private static final class StreetText {
        private final Reader reader;
        private final Street street;
        private boolean footTold;
        private boolean calmTold;
        private boolean oddsTold;

        StreetText(Reader tokens, Street empty) {
            reader = tokens;
            street = empty;
        }

        boolean take(int n) {
            street.clear();
            reader.begin(n);
            for (int i = 0; i < TAPE && !reader.isAtEnd(); i++) {
                boolean good;
                switch (reader.word) {
                    case FOOT:
                        good = takeFoot();
                        break;
                    case CALM:
                        good = takeCalm();
                        break;
                    case ODDS:
                        good = takeOdds();
                        break;
                    case HOUSE:
                        good = takeHouse();
                        break;
                    case PERSON:
                        good = takePerson();
                        break;
                    case PEACE:
                        good = takePeace();
                        break;
                    default:
                        good = reader.reject(FAULT_STAND);
                        break;
                }
                if (!good || !reader.takeStop()) {
                    return false;
                }
            }
            return true;
        }

        private boolean takeFoot() {
            if (footTold) {
                return reader.reject(FAULT_AGAIN);
            }
            footTold = true;
            reader.advance();
            street.foot = reader.takeNumber(1, 9);
            return street.foot != NONE;
        }

        private boolean takeCalm() {
            if (calmTold) {
                return reader.reject(FAULT_AGAIN);
            }
            calmTold = true;
            reader.advance();
            street.calm = reader.takeNumber(0, 9);
            return street.calm != NONE;
        }

        private boolean takeOdds() {
            if (oddsTold) {
                return reader.reject(FAULT_AGAIN);
            }
            oddsTold = true;
            reader.advance();
            street.odds = reader.takeNumber(0, SIXTEENTHS);
            return street.odds != NONE;
        }

        private boolean takeHouse() {
            if (street.houseCount >= HOUSES) {
                return reader.reject(FAULT_MANY);
            }
            reader.advance();
            long name = reader.takeNewName(street);
            if (name == 0 || !reader.takeWord(WIDE)) {
                return false;
            }
            int wide = reader.takeNumber(0, 99);
            if (wide == NONE) {
                return false;
            }
            street.houses[street.houseCount].build(name, wide);
            street.houseCount++;
            return true;
        }

        private boolean takePerson() {
            if (street.peopleCount >= PEOPLE) {
                return reader.reject(FAULT_MANY);
            }
            reader.advance();
            long name = reader.takeNewName(street);
            if (name == 0 || !reader.takeWord(IN)) {
                return false;
            }
            int home = reader.takeHouse(street);
            if (home == NONE) {
                return false;
            }
            Person made = street.people[street.peopleCount];
            made.settle(name, home);
            street.peopleCount++;
            for (int what = 1; what <= TRAITS; what++) {
                if (!takeTrait(made, what)) {
                    return false;
                }
            }
            return true;
        }

        /** A trait that isn't told stays as it is without. */
        private boolean takeTrait(Person made, int what) {
            if (reader.word != TEMPER + what - 1) {
                return true;
            }
            reader.advance();
            int much = reader.takeNumber(TRAIT_LEAST[what], TRAIT_MOST[what]);
            if (much == NONE) {
                return false;
            }
            made.setTrait(what, much);
            return true;
        }

        private boolean takePeace() {
            reader.advance();
            int one = reader.takeHouse(street);
            if (one == NONE) {
                return false;
            }
            int other = reader.seeHouse(street);
            if (other == NONE) {
                return false;
            }
            if (Math.abs(one - other) != 1) {
                return reader.reject(FAULT_AGAIN);
            }
            reader.advance();
            street.peace |= 1 << Math.min(one, other);
            return true;
        }
    }

    /** A text that is to be the YEARS of a STREET. */
    private static final class YearsText {
        private static final int MOST_OPEN = 3;

        private final Reader reader;
        private final Street street;
        private final Years years;
        private final int[] open = new int[MOST_OPEN];
        private int openCount;

        YearsText(Reader tokens, Street named, Years empty) {
            reader = tokens;
            street = named;
            years = empty;
        }

        boolean take(int n) {
            years.clear();
            reader.begin(n);
            for (int i = 0; i < YEARS_TEXT && !reader.isAtEnd(); i++) {
                boolean good = reader.word == END ? takeEnd() : mayBegin(reader.word) && takeStep(reader.word);
                if (!good || !reader.takeStop()) {
                    return false;
                }
            }
            if (openCount > 0) {
                return reader.reject(FAULT_STAND);
            }
            years.areTold = true;
            return true;
        }

        private boolean takeEnd() {
            if (openCount == 0) {
                return reader.reject(FAULT_STAND);
            }
            reader.advance();
            openCount--;
            int at = years.entries;
            years.deed[at] = END;
            years.partner[at] = open[openCount];
            years.partner[open[openCount]] = at;
            years.entries++;
            return true;
        }

        private boolean mayBegin(int word) {
            if (word < SAY || word == ANGRY || word == RAINING) {
                return reader.reject(FAULT_STAND);
            }
            if (years.steps >= Years.MOST_STEPS) {
                return reader.reject(FAULT_MANY);
            }
            if ((word == WHEN || word == LOOP) && openCount >= MOST_OPEN) {
                return reader.reject(FAULT_DEEP);
            }
            return true;
        }

        private boolean takeStep(int deed) {
            reader.advance();
            int at = years.entries;
            years.deed[at] = deed;
            years.entries++;
            years.steps++;
            switch (deed) {
                case SAY:
                    return takeSpeakers(at);
                case NIGHT:
                    years.number[at] = reader.takeNumber(1, 20);
                    return years.number[at] != NONE;
                case LOOP:
                    beginPart(at);
                    years.number[at] = reader.takeNumber(1, 99);
                    return years.number[at] != NONE;
                case WHEN:
                    beginPart(at);
                    return takeTest(at);
                default:
                    return true;
            }
        }

        private void beginPart(int at) {
            open[openCount] = at;
            openCount++;
        }

        private boolean takeSpeakers(int at) {
            years.one[at] = reader.takePerson(street);
            if (years.one[at] == NONE) {
                return false;
            }
            years.other[at] = reader.takePerson(street);
            return years.other[at] != NONE;
        }

        private boolean takeTest(int at) {
            int test = reader.word;
            years.test[at] = test;
            if (test != ANGRY && test != WIDE && test != RAINING) {
                return reader.reject(FAULT_STAND);
            }
            reader.advance();
            if (test == RAINING) {
                return true;
            }
            years.one[at] = test == ANGRY ? reader.takePerson(street) : reader.takeHouse(street);
            if (years.one[at] == NONE) {
                return false;
            }
            years.sign[at] = reader.takeCompare();
            if (years.sign[at] == NONE) {
                return false;
            }
            years.number[at] = reader.takeNumber(0, test == ANGRY ? 99 : 999);
            return years.number[at] != NONE;
        }
    }
}
