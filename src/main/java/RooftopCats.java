import java.util.Arrays;
import java.util.NoSuchElementException;

/** The bylaws of rooftop cats; the promises that it keeps are numbered in DOC.md. */
public final class RooftopCats {
    public static final int NONE = -1;
    public static final int ALLOWED = 0, NOT_HERE = 1, TOO_NARROW = 2, OCCUPIED = 3, TRESPASS = 4, OWNED = 5, OWNS_ENOUGH = 6, NOT_NEAR = 7, IN_TRUCE = 8, TOO_WEAK = 9;

    private static final int MOST_CHIMNEYS = 10;
    private static final int MOST_GUTTERS = 20;
    private static final int MOST_CATS = 8;
    private static final int MOST_OWNED = 4;
    private static final int MOST_WARMTH = 9;
    private static final int MOST_SIZE = 9;
    private static final int FIRST_FISH = 5;
    private static final int MOST_FISH = 99;
    private static final int MOST_PRICE = 9;
    private static final int MOST_TRUCE = 20;
    private static final int MOST_NIGHTS = 30;
    private static final int LAST_NIGHT = 999;
    private static final int MOON_PHASES = 8;
    private static final int FULL_MOON = 4;
    private static final int MOST_TEXT = 600;
    private static final int APPENDED = 20;
    private static final int MOST_COMMANDS = 200;
    private static final int MOST_ROUNDS = 20;
    private static final int MOST_DEPTH = 2;
    private static final int MOST_UNDO = 8;

    private final Roof roof = new Roof();
    private final Roof snapshot = new Roof();
    private boolean snapshotSaved = false;
    private final History history = new History();
    private final Script script = new Script();
    private final Report report = new Report();

    public RooftopCats() {
        roof.putChimney(6);
        roof.putChimney(3);
        roof.putChimney(9);
        roof.putChimney(0);
        roof.putChimney(4);
        roof.putGutter(0, 1, 5);
        roof.putGutter(1, 2, 3);
        roof.putGutter(2, 3, 7);
        roof.putGutter(0, 3, 2);
        roof.putGutter(3, 4, 9);
        roof.putCat(0, 4, 5);
        roof.putCat(2, 3, 6);
        roof.putCat(4, 6, 3);
        roof.takeSeat(0);
        roof.takeSeat(1);
        roof.agreeTruce(2, 1, 2, 6);
        roof.spendNights(3);
    }

    // ---- input

    public int append(int a, int b, int c, int d, int e) {
        Reader reader = script.reader;
        if (reader.length > MOST_TEXT - APPENDED) {
            return NONE;
        }
        reader.putFour(a);
        reader.putFour(b);
        reader.putFour(c);
        reader.putFour(d);
        reader.putFour(e);
        return reader.length;
    }

    public int truncateInput(int length) throws IllegalArgumentException {
        if (length < 0 || length > script.reader.length) {
            throw new IllegalArgumentException("no such shorter length");
        }
        script.reader.length = length;
        return length;
    }

    // ---- changes

    public int runScript() {
        script.execute();
        script.reader.length = 0;
        if (script.errorKind != 0) {
            return NONE;
        }
        history.remember(roof);
        roof.copyFrom(script.roof);
        return roof.cats;
    }

    public int addChimney(int warmth) throws IllegalArgumentException, IllegalStateException {
        needRange(warmth, 0, MOST_WARMTH);
        refuseIf(roof.chimneys >= MOST_CHIMNEYS);
        history.remember(roof);
        return roof.putChimney(warmth);
    }

    public int addGutter(int one, int other, int width) throws IndexOutOfBoundsException, IllegalArgumentException, IllegalStateException {
        needChimney(one);
        needChimney(other);
        needTwo(one, other);
        needRange(width, 1, MOST_SIZE);
        refuseIf(roof.gutters >= MOST_GUTTERS);
        history.remember(roof);
        return roof.putGutter(one, other, width);
    }

    public int addCat(int chimney, int girth, int strength) throws IndexOutOfBoundsException, IllegalArgumentException, IllegalStateException {
        needChimney(chimney);
        needRange(girth, 1, MOST_SIZE);
        needRange(strength, 1, MOST_SIZE);
        refuseIf(roof.refusesCat(chimney));
        history.remember(roof);
        return roof.putCat(chimney, girth, strength);
    }

    public int step(int cat, int gutter) throws IndexOutOfBoundsException, IllegalStateException {
        needCat(cat);
        needGutter(gutter);
        refuseIf(roof.stepRefusal(cat, gutter) != ALLOWED);
        history.remember(roof);
        return roof.walk(cat, gutter);
    }

    public int claim(int cat) throws IndexOutOfBoundsException, IllegalStateException {
        needCat(cat);
        refuseIf(roof.claimRefusal(cat) != ALLOWED);
        history.remember(roof);
        return roof.takeSeat(cat);
    }

    public int abandon(int chimney) throws IndexOutOfBoundsException, IllegalStateException {
        needChimney(chimney);
        refuseIf(roof.owner[chimney] == NONE);
        history.remember(roof);
        return roof.release(chimney);
    }

    public boolean chase(int cat, int target) throws IndexOutOfBoundsException, IllegalArgumentException, IllegalStateException {
        needCat(cat);
        needCat(target);
        needTwo(cat, target);
        refuseIf(roof.chaseRefusal(cat, target) != ALLOWED);
        history.remember(roof);
        return roof.driveAway(cat, target);
    }

    public int buyTruce(int cat, int other, int fish, int nights) throws IndexOutOfBoundsException, IllegalArgumentException, IllegalStateException {
        needCat(cat);
        needCat(other);
        needTwo(cat, other);
        needRange(fish, 1, MOST_PRICE);
        needRange(nights, 1, MOST_TRUCE);
        refuseIf(roof.refusesTruce(cat, other, fish));
        history.remember(roof);
        return roof.agreeTruce(cat, other, fish, nights);
    }

    public int nominate(int girth, int strength) throws IllegalArgumentException, IllegalStateException {
        needRange(girth, 1, MOST_SIZE);
        needRange(strength, 1, MOST_SIZE);
        refuseIf(roof.refusesKitten());
        history.remember(roof);
        roof.kitten.arrive(girth, strength);
        return roof.cats;
    }

    public boolean vote(int cat, boolean yes) throws IndexOutOfBoundsException, IllegalStateException {
        needCat(cat);
        refuseIf(roof.refusesVote(cat));
        history.remember(roof);
        return roof.takeVote(cat, yes);
    }

    public int passNights(int nights) throws IllegalArgumentException, IllegalStateException {
        needRange(nights, 1, MOST_NIGHTS);
        refuseIf(roof.refusesNights(nights));
        history.remember(roof);
        return roof.spendNights(nights);
    }

    // ---- undo and the snapshot

    public int undo() {
        if (history.count == 0) {
            return NONE;
        }
        history.takeBack(roof);
        return history.count;
    }

    public int undoCount() {
        return history.count;
    }

    public int saveSnapshot() {
        snapshot.copyFrom(roof);
        snapshotSaved = true;
        return roof.night;
    }

    public int restoreSnapshot() throws NoSuchElementException {
        if (!snapshotSaved) {
            throw new NoSuchElementException("no snapshot was saved");
        }
        roof.copyFrom(snapshot);
        history.forget();
        return roof.night;
    }

    // ---- the script error

    public int scriptErrorKind() {
        return script.errorKind;
    }

    public int scriptErrorOffset() {
        return script.errorOffset;
    }

    // ---- the roof

    public int chimneyCount() {
        return roof.chimneys;
    }

    public int gutterCount() {
        return roof.gutters;
    }

    public int catCount() {
        return roof.cats;
    }

    public int night() {
        return roof.night;
    }

    public int moonPhase() {
        return roof.night % MOON_PHASES;
    }

    public int warmth(int chimney) throws IndexOutOfBoundsException {
        needChimney(chimney);
        return roof.warmth[chimney];
    }

    public int ownerOf(int chimney) throws IndexOutOfBoundsException {
        needChimney(chimney);
        return roof.owner[chimney];
    }

    public int catOn(int chimney) throws IndexOutOfBoundsException {
        needChimney(chimney);
        return roof.sitter(chimney);
    }

    public int gutterEnds(int gutter) throws IndexOutOfBoundsException {
        needGutter(gutter);
        return 1 << roof.one[gutter] | 1 << roof.other[gutter];
    }

    public int width(int gutter) throws IndexOutOfBoundsException {
        needGutter(gutter);
        return roof.width[gutter];
    }

    public int widestWay(int chimney, int target) throws IndexOutOfBoundsException {
        needChimney(chimney);
        needChimney(target);
        return roof.widestGirth(chimney, target);
    }

    public int warmestFree() {
        return roof.warmestSeat();
    }

    // ---- cats

    public int girth(int cat) throws IndexOutOfBoundsException {
        needCat(cat);
        return roof.girth[cat];
    }

    public int power(int cat) throws IndexOutOfBoundsException {
        needCat(cat);
        return roof.might(cat);
    }

    public int fish(int cat) throws IndexOutOfBoundsException {
        needCat(cat);
        return roof.fish[cat];
    }

    public int chimneyOf(int cat) throws IndexOutOfBoundsException {
        needCat(cat);
        return roof.seat[cat];
    }

    public int ownedChimneys(int cat) throws IndexOutOfBoundsException {
        needCat(cat);
        return roof.estate(cat);
    }

    public int truceNights(int cat, int other) throws IndexOutOfBoundsException, IllegalArgumentException {
        needCat(cat);
        needCat(other);
        needTwo(cat, other);
        return roof.truceLeft(cat, other);
    }

    public int reachable(int cat) throws IndexOutOfBoundsException {
        needCat(cat);
        return roof.walkable(cat, MOST_CHIMNEYS);
    }

    public int stepsTo(int cat, int chimney) throws IndexOutOfBoundsException {
        needCat(cat);
        needChimney(chimney);
        return roof.fewestSteps(cat, chimney);
    }

    public int openGutters(int cat) throws IndexOutOfBoundsException {
        needCat(cat);
        int set = 0;
        for (int gutter = 0; gutter < roof.gutters; gutter++) {
            if (roof.stepRefusal(cat, gutter) == ALLOWED) {
                set |= 1 << gutter;
            }
        }
        return set;
    }

    // ---- reasons

    public int whyNoStep(int cat, int gutter) throws IndexOutOfBoundsException {
        needCat(cat);
        needGutter(gutter);
        return roof.stepRefusal(cat, gutter);
    }

    public int whyNoClaim(int cat) throws IndexOutOfBoundsException {
        needCat(cat);
        return roof.claimRefusal(cat);
    }

    public int whyNoChase(int cat, int target) throws IndexOutOfBoundsException, IllegalArgumentException {
        needCat(cat);
        needCat(target);
        needTwo(cat, target);
        return roof.chaseRefusal(cat, target);
    }

    public int preyOf(int cat) throws IndexOutOfBoundsException {
        needCat(cat);
        int set = 0;
        for (int target = 0; target < roof.cats; target++) {
            if (target != cat && roof.chaseRefusal(cat, target) == ALLOWED) {
                set |= 1 << target;
            }
        }
        return set;
    }

    // ---- kittens

    public boolean isKittenWaiting() {
        return roof.kitten.waits;
    }

    public int votesFor() {
        return roof.kitten.votes(Kitten.YES);
    }

    public int votesAgainst() {
        return roof.kitten.votes(Kitten.NO);
    }

    public boolean hasVoted(int cat) throws IndexOutOfBoundsException {
        needCat(cat);
        return roof.kitten.ballots[cat] != Kitten.OPEN;
    }

    // ---- choirs and fish

    public int choirOf(int cat) throws IndexOutOfBoundsException {
        needCat(cat);
        return roof.choirAround(cat);
    }

    public int choirCount() {
        int counted = 0;
        int count = 0;
        for (int cat = 0; cat < roof.cats; cat++) {
            if ((counted >> cat & 1) == 0) {
                counted |= roof.choirAround(cat);
                count++;
            }
        }
        return count;
    }

    public int largestChoir() {
        return roof.mainChoir();
    }

    public int nightsToFullMoon() {
        int waiting = FULL_MOON - roof.night % MOON_PHASES;
        return waiting > 0 ? waiting : waiting + MOON_PHASES;
    }

    public int fishAfter(int cat, int nights) throws IndexOutOfBoundsException, IllegalArgumentException {
        needCat(cat);
        needRange(nights, 0, MOST_NIGHTS);
        return roof.futureFish(cat, nights);
    }

    public int richestCat() {
        int richest = NONE;
        int most = -1;
        for (int cat = 0; cat < roof.cats; cat++) {
            if (roof.fish[cat] > most) {
                richest = cat;
                most = roof.fish[cat];
            }
        }
        return richest;
    }

    public int totalFish() {
        return roof.allFish();
    }

    // ---- means and checks

    public double meanFish() {
        if (roof.cats == 0) {
            return 0.0;
        }
        return (double) roof.allFish() / (double) roof.cats;
    }

    public float ownedShare() {
        if (roof.chimneys == 0) {
            return 0.0f;
        }
        int owned = 0;
        for (int chimney = 0; chimney < roof.chimneys; chimney++) {
            if (roof.owner[chimney] != NONE) {
                owned++;
            }
        }
        return (float) owned / (float) roof.chimneys;
    }

    public int violations() {
        return roof.fishMismatch() + roof.sharedChimneys() + roof.brokenCats();
    }

    // ---- the report

    public int writeRoof() {
        report.write(roof);
        return report.length;
    }

    public int reportByte(int index) {
        if (index < 0 || index >= report.length) {
            return NONE;
        }
        return report.bytes[index];
    }

    // ---- tests of arguments, in the order in which the document lists the exceptions

    private void needChimney(int chimney) {
        if (!roof.hasChimney(chimney)) {
            throw new IndexOutOfBoundsException("no such chimney");
        }
    }

    private void needGutter(int gutter) {
        if (!roof.hasGutter(gutter)) {
            throw new IndexOutOfBoundsException("no such gutter");
        }
    }

    private void needCat(int cat) {
        if (!roof.hasCat(cat)) {
            throw new IndexOutOfBoundsException("no such cat");
        }
    }

    private void needTwo(int first, int second) {
        if (first == second) {
            throw new IllegalArgumentException("both are the same");
        }
    }

    private void needRange(int value, int least, int most) {
        if (value < least || value > most) {
            throw new IllegalArgumentException("out of range");
        }
    }

    private void refuseIf(boolean refused) {
        if (refused) {
            throw new IllegalStateException("refused as things stand");
        }
    }

    /** Everything that undo restores. The callers test all numbers before they hand them in. */
    private static final class Roof {
        int chimneys = 0;
        final int[] warmth = new int[MOST_CHIMNEYS];
        final int[] owner = new int[MOST_CHIMNEYS];
        int gutters = 0;
        final int[] one = new int[MOST_GUTTERS];
        final int[] other = new int[MOST_GUTTERS];
        final int[] width = new int[MOST_GUTTERS];
        int cats = 0;
        final int[] girth = new int[MOST_CATS];
        final int[] strength = new int[MOST_CATS];
        final int[] fish = new int[MOST_CATS];
        final int[] seat = new int[MOST_CATS];
        // The first night without the truce of two cats, at the place of either order.
        final int[] truceEnd = new int[MOST_CATS * MOST_CATS];
        int night = 0;
        // What all cats got and ate in nights: violations() balances fish with it.
        int got = 0;
        int eaten = 0;
        final Kitten kitten = new Kitten();

        // -- the whole

        void clear() {
            chimneys = 0;
            gutters = 0;
            cats = 0;
            Arrays.fill(truceEnd, 0);
            night = 0;
            got = 0;
            eaten = 0;
            kitten.leave();
        }

        void copyFrom(Roof from) {
            chimneys = from.chimneys;
            System.arraycopy(from.warmth, 0, warmth, 0, MOST_CHIMNEYS);
            System.arraycopy(from.owner, 0, owner, 0, MOST_CHIMNEYS);
            gutters = from.gutters;
            System.arraycopy(from.one, 0, one, 0, MOST_GUTTERS);
            System.arraycopy(from.other, 0, other, 0, MOST_GUTTERS);
            System.arraycopy(from.width, 0, width, 0, MOST_GUTTERS);
            cats = from.cats;
            System.arraycopy(from.girth, 0, girth, 0, MOST_CATS);
            System.arraycopy(from.strength, 0, strength, 0, MOST_CATS);
            System.arraycopy(from.fish, 0, fish, 0, MOST_CATS);
            System.arraycopy(from.seat, 0, seat, 0, MOST_CATS);
            System.arraycopy(from.truceEnd, 0, truceEnd, 0, MOST_CATS * MOST_CATS);
            night = from.night;
            got = from.got;
            eaten = from.eaten;
            kitten.copyFrom(from.kitten);
        }

        // -- what there is

        boolean hasChimney(int chimney) {
            return chimney >= 0 && chimney < chimneys;
        }

        boolean hasGutter(int gutter) {
            return gutter >= 0 && gutter < gutters;
        }

        boolean hasCat(int cat) {
            return cat >= 0 && cat < cats;
        }

        int sitter(int chimney) {
            for (int cat = 0; cat < cats; cat++) {
                if (seat[cat] == chimney) {
                    return cat;
                }
            }
            return NONE;
        }

        int warmestSeat() {
            int warmest = NONE;
            int most = -1;
            for (int chimney = 0; chimney < chimneys; chimney++) {
                if (warmth[chimney] > most && sitter(chimney) == NONE) {
                    warmest = chimney;
                    most = warmth[chimney];
                }
            }
            return warmest;
        }

        boolean sitsAtHome(int cat) {
            return owner[seat[cat]] == cat;
        }

        int might(int cat) {
            return sitsAtHome(cat) ? strength[cat] + 2 : strength[cat];
        }

        int estate(int cat) {
            int set = 0;
            for (int chimney = 0; chimney < chimneys; chimney++) {
                if (owner[chimney] == cat) {
                    set |= 1 << chimney;
                }
            }
            return set;
        }

        boolean ownsEnough(int cat) {
            return Integer.bitCount(estate(cat)) >= MOST_OWNED;
        }

        int truceLeft(int cat, int another) {
            return Math.max(0, truceEnd[cat * MOST_CATS + another] - night);
        }

        // -- ways

        boolean isBarred(int cat, int chimney) {
            int lord = owner[chimney];
            return lord != NONE && lord != cat && truceLeft(cat, lord) == 0;
        }

        /** The chimneys within so many steps of a start, on allowed ones, through gutters of a width. */
        int spread(int start, int allowed, int leastWidth, int steps) {
            int set = 1 << start;
            for (int i = 0; i < steps; i++) {
                int wider = set;
                for (int gutter = 0; gutter < gutters; gutter++) {
                    int ends = 1 << one[gutter] | 1 << other[gutter];
                    if (width[gutter] >= leastWidth && (set & ends) != 0) {
                        wider |= ends & allowed;
                    }
                }
                if (wider == set) {
                    return set;
                }
                set = wider;
            }
            return set;
        }

        int walkable(int cat, int steps) {
            int allowed = 0;
            for (int chimney = 0; chimney < chimneys; chimney++) {
                if (sitter(chimney) == NONE && !isBarred(cat, chimney)) {
                    allowed |= 1 << chimney;
                }
            }
            return spread(seat[cat], allowed, girth[cat], steps);
        }

        int fewestSteps(int cat, int chimney) {
            for (int steps = 0; steps < MOST_CHIMNEYS; steps++) {
                if ((walkable(cat, steps) >> chimney & 1) != 0) {
                    return steps;
                }
            }
            return NONE;
        }

        int widestGirth(int chimney, int target) {
            int anywhere = (1 << chimneys) - 1;
            for (int size = MOST_SIZE; size >= 1; size--) {
                if ((spread(chimney, anywhere, size, MOST_CHIMNEYS) >> target & 1) != 0) {
                    return size;
                }
            }
            return NONE;
        }

        // -- refusals

        boolean refusesCat(int chimney) {
            return cats >= MOST_CATS || sitter(chimney) != NONE;
        }

        int stepRefusal(int cat, int gutter) {
            if (one[gutter] != seat[cat] && other[gutter] != seat[cat]) {
                return NOT_HERE;
            }
            if (width[gutter] < girth[cat]) {
                return TOO_NARROW;
            }
            int there = farEnd(cat, gutter);
            if (sitter(there) != NONE) {
                return OCCUPIED;
            }
            return isBarred(cat, there) ? TRESPASS : ALLOWED;
        }

        private int farEnd(int cat, int gutter) {
            return one[gutter] == seat[cat] ? other[gutter] : one[gutter];
        }

        int claimRefusal(int cat) {
            if (owner[seat[cat]] != NONE) {
                return OWNED;
            }
            return ownsEnough(cat) ? OWNS_ENOUGH : ALLOWED;
        }

        int chaseRefusal(int cat, int target) {
            if (!isNear(cat, target)) {
                return NOT_NEAR;
            }
            if (truceLeft(cat, target) > 0) {
                return IN_TRUCE;
            }
            return might(cat) > might(target) ? ALLOWED : TOO_WEAK;
        }

        private boolean isNear(int cat, int target) {
            int both = 1 << seat[cat] | 1 << seat[target];
            for (int gutter = 0; gutter < gutters; gutter++) {
                if ((1 << one[gutter] | 1 << other[gutter]) == both && width[gutter] >= girth[cat]) {
                    return true;
                }
            }
            return false;
        }

        boolean refusesTruce(int cat, int another, int price) {
            return truceLeft(cat, another) > 0 || fish[cat] < price || fish[another] + price > MOST_FISH;
        }

        boolean refusesKitten() {
            return kitten.waits || cats == 0 || cats >= MOST_CATS;
        }

        boolean refusesVote(int cat) {
            return !kitten.waits || kitten.ballots[cat] != Kitten.OPEN;
        }

        boolean refusesNights(int nights) {
            return night + nights > LAST_NIGHT;
        }

        // -- changes, each only when it is not refused

        int putChimney(int heat) {
            warmth[chimneys] = heat;
            owner[chimneys] = NONE;
            chimneys++;
            return chimneys - 1;
        }

        int putGutter(int from, int to, int breadth) {
            one[gutters] = from;
            other[gutters] = to;
            width[gutters] = breadth;
            gutters++;
            return gutters - 1;
        }

        int putCat(int chimney, int size, int force) {
            girth[cats] = size;
            strength[cats] = force;
            fish[cats] = FIRST_FISH;
            seat[cats] = chimney;
            cats++;
            return cats - 1;
        }

        int walk(int cat, int gutter) {
            seat[cat] = farEnd(cat, gutter);
            return seat[cat];
        }

        int takeSeat(int cat) {
            owner[seat[cat]] = cat;
            return Integer.bitCount(estate(cat));
        }

        int release(int chimney) {
            int previous = owner[chimney];
            owner[chimney] = NONE;
            return previous;
        }

        boolean driveAway(int cat, int target) {
            int lost = seat[target];
            seat[target] = seat[cat];
            seat[cat] = lost;
            if (owner[lost] == target) {
                owner[lost] = ownsEnough(cat) ? NONE : cat;
            }
            if (fish[target] > 0 && fish[cat] < MOST_FISH) {
                fish[target]--;
                fish[cat]++;
            }
            return owner[lost] == cat;
        }

        int agreeTruce(int cat, int another, int price, int nights) {
            fish[cat] -= price;
            fish[another] += price;
            int end = night + nights;
            truceEnd[cat * MOST_CATS + another] = end;
            truceEnd[another * MOST_CATS + cat] = end;
            return end;
        }

        boolean takeVote(int cat, boolean yes) {
            kitten.ballots[cat] = yes ? Kitten.YES : Kitten.NO;
            int yesses = kitten.votes(Kitten.YES);
            int noes = kitten.votes(Kitten.NO);
            if (yesses + noes < cats) {
                return false;
            }
            int place = warmestSeat();
            boolean admitted = yesses > noes && cats < MOST_CATS && place != NONE;
            if (admitted) {
                putCat(place, kitten.girth, kitten.strength);
            }
            kitten.leave();
            return admitted;
        }

        int spendNights(int nights) {
            // Nobody moves in these nights, so that the choir stays what it is.
            int choir = mainChoir();
            for (int i = 0; i < nights; i++) {
                night++;
                for (int cat = 0; cat < cats; cat++) {
                    setFishInNight(cat, supper(cat, fish[cat]));
                    setFishInNight(cat, feast(cat, fish[cat], night, choir));
                }
            }
            return night;
        }

        private void setFishInNight(int cat, int amount) {
            if (amount > fish[cat]) {
                got += amount - fish[cat];
            } else {
                eaten += fish[cat] - amount;
            }
            fish[cat] = amount;
        }

        // -- nights and choirs

        int futureFish(int cat, int nights) {
            int choir = mainChoir();
            int amount = fish[cat];
            for (int i = 1; i <= nights; i++) {
                amount = feast(cat, supper(cat, amount), night + i, choir);
            }
            return amount;
        }

        private int supper(int cat, int amount) {
            if (sitsAtHome(cat)) {
                return Math.min(MOST_FISH, amount + warmth[seat[cat]] / 3);
            }
            return Math.max(0, amount - 1);
        }

        private int feast(int cat, int amount, int when, int choir) {
            if (when % MOON_PHASES != FULL_MOON || (choir >> cat & 1) == 0) {
                return amount;
            }
            return Math.min(MOST_FISH, amount + Integer.bitCount(choir));
        }

        int choirAround(int cat) {
            int taken = 0;
            for (int each = 0; each < cats; each++) {
                taken |= 1 << seat[each];
            }
            int stage = spread(seat[cat], taken, 0, MOST_CHIMNEYS);
            int choir = 0;
            for (int each = 0; each < cats; each++) {
                if ((stage >> seat[each] & 1) != 0) {
                    choir |= 1 << each;
                }
            }
            return choir;
        }

        int mainChoir() {
            int largest = 0;
            int compared = 0;
            for (int cat = 0; cat < cats; cat++) {
                if ((compared >> cat & 1) == 0) {
                    int choir = choirAround(cat);
                    compared |= choir;
                    if (Integer.bitCount(choir) > Integer.bitCount(largest)) {
                        largest = choir;
                    }
                }
            }
            return largest;
        }

        // -- checks

        int allFish() {
            int sum = 0;
            for (int cat = 0; cat < cats; cat++) {
                sum += fish[cat];
            }
            return sum;
        }

        int fishMismatch() {
            return Math.abs(allFish() - (FIRST_FISH * cats + got - eaten));
        }

        int sharedChimneys() {
            int shared = 0;
            for (int chimney = 0; chimney < chimneys; chimney++) {
                int sitters = 0;
                for (int cat = 0; cat < cats; cat++) {
                    if (seat[cat] == chimney) {
                        sitters++;
                    }
                }
                if (sitters > 1) {
                    shared++;
                }
            }
            return shared;
        }

        int brokenCats() {
            int broken = 0;
            for (int cat = 0; cat < cats; cat++) {
                if (Integer.bitCount(estate(cat)) > MOST_OWNED) {
                    broken++;
                }
                if (fish[cat] < 0 || fish[cat] > MOST_FISH) {
                    broken++;
                }
            }
            return broken;
        }
    }

    /** The kitten that waits, and how each cat voted; without a kitten all ballots are open. */
    private static final class Kitten {
        static final int OPEN = 0;
        static final int YES = 1;
        static final int NO = 2;

        boolean waits = false;
        int girth = 0;
        int strength = 0;
        final int[] ballots = new int[MOST_CATS];

        void arrive(int size, int force) {
            waits = true;
            girth = size;
            strength = force;
        }

        void leave() {
            waits = false;
            Arrays.fill(ballots, OPEN);
        }

        void copyFrom(Kitten from) {
            waits = from.waits;
            girth = from.girth;
            strength = from.strength;
            System.arraycopy(from.ballots, 0, ballots, 0, MOST_CATS);
        }

        int votes(int choice) {
            int count = 0;
            for (int cat = 0; cat < MOST_CATS; cat++) {
                if (ballots[cat] == choice) {
                    count++;
                }
            }
            return count;
        }
    }

    /** The roofs before the latest changes, in a ring that is made once and used again. */
    private static final class History {
        private final Roof[] past = new Roof[MOST_UNDO];
        private int oldest = 0;
        int count = 0;

        History() {
            for (int i = 0; i < MOST_UNDO; i++) {
                past[i] = new Roof();
            }
        }

        void remember(Roof roof) {
            past[(oldest + count) % MOST_UNDO].copyFrom(roof);
            if (count < MOST_UNDO) {
                count++;
            } else {
                oldest = (oldest + 1) % MOST_UNDO;
            }
        }

        void takeBack(Roof roof) {
            if (count > 0) {
                count--;
                roof.copyFrom(past[(oldest + count) % MOST_UNDO]);
            }
        }

        void forget() {
            count = 0;
        }
    }

    /**
     * The commands of scripts. Each letter of the places tells which number stands there:
     * h a chimney, H another chimney than the first number, c a cat, C another cat than the first
     * number, g a gutter, w a warmth, s a size (girth, strength or width), f the fish and t the
     * nights of a truce, n nights to pass, r the rounds of a repeat.
     */
    private enum Command {
        CHIMNEY("chimney", "w"),
        GUTTER("gutter", "hHs"),
        CAT("cat", "hss"),
        STEP("step", "cg"),
        CLAIM("claim", "c"),
        ABANDON("abandon", "h"),
        CHASE("chase", "cC"),
        TRUCE("truce", "cCft"),
        KITTEN("kitten", "ss"),
        YES("yes", "c"),
        NO("no", "c"),
        NIGHTS("nights", "n"),
        REPEAT("repeat", "r");

        final String word;
        final String places;

        Command(String word, String places) {
            this.word = word;
            this.places = places;
        }
    }

    /** The input buffer, and the token at which the script reads it. */
    private static final class Reader {
        static final int END = 0;
        static final int WORD = 1;
        static final int NUMBER = 2;
        static final int OPEN = 3;
        static final int CLOSE = 4;
        static final int SEMICOLON = 5;
        static final int WRONG = 6;

        private static final int MOST_DIGITS = 3;

        private final byte[] text = new byte[MOST_TEXT];
        int length = 0;
        int at = 0;
        int kind = END;
        int start = 0;
        int number = 0;

        void putFour(int value) {
            for (int shift = 24; shift >= 0 && length < MOST_TEXT; shift -= 8) {
                text[length] = (byte) (value >> shift);
                length++;
            }
        }

        void next() {
            while (at < length && (text[at] == ' ' || text[at] == '\n')) {
                at++;
            }
            start = at;
            kind = END;
            if (at < length) {
                kind = kindOf(text[at]);
                at++;
            }
            if (kind == WORD || kind == NUMBER) {
                while (at < length && kindOf(text[at]) == kind) {
                    at++;
                }
            }
            if (kind == NUMBER) {
                readNumber();
            }
        }

        private void readNumber() {
            if (at - start > MOST_DIGITS) {
                kind = WRONG;
                return;
            }
            number = 0;
            for (int i = start; i < at; i++) {
                number = number * 10 + text[i] - '0';
            }
        }

        private int kindOf(int sign) {
            if (sign >= 'a' && sign <= 'z') {
                return WORD;
            }
            if (sign >= '0' && sign <= '9') {
                return NUMBER;
            }
            if (sign == '(') {
                return OPEN;
            }
            if (sign == ')') {
                return CLOSE;
            }
            return sign == ';' ? SEMICOLON : WRONG;
        }

        boolean isWord(String word) {
            if (kind != WORD || word.length() != at - start) {
                return false;
            }
            for (int i = 0; i < word.length(); i++) {
                if (text[start + i] != word.charAt(i)) {
                    return false;
                }
            }
            return true;
        }
    }

    /** Executes the input buffer on a roof of its own, which counts only if there is no error. */
    private static final class Script {
        private static final Command[] COMMANDS = Command.values();
        private static final int MOST_NUMBERS = 4;
        // 600 bytes hold at most some 50 empty repeats, in 20 rounds of 20 rounds.
        private static final int MOST_STATEMENTS = 1000000;

        private static final int GRAMMAR = 1;
        private static final int BAD_NUMBER = 2;
        private static final int REFUSED = 3;
        private static final int TOO_DEEP = 4;
        private static final int TOO_MANY = 5;

        final Reader reader = new Reader();
        final Roof roof = new Roof();
        int errorKind = 0;
        int errorOffset = NONE;
        private final int[] numbers = new int[MOST_NUMBERS];
        private boolean running = false;
        private int executed = 0;
        private int depth = 0;
        private final int[] bodyStart = new int[MOST_DEPTH];
        private final int[] roundsLeft = new int[MOST_DEPTH];

        void execute() {
            begin();
            readHead();
            for (int i = 0; i < MOST_STATEMENTS && running; i++) {
                Command command = readStatement();
                if (command != null && isRefused(command)) {
                    fail(REFUSED);
                } else if (command != null) {
                    executed++;
                    apply(command);
                }
            }
        }

        private void begin() {
            roof.clear();
            reader.at = 0;
            errorKind = 0;
            errorOffset = NONE;
            running = true;
            executed = 0;
            depth = 0;
        }

        private void fail(int kind) {
            errorKind = kind;
            errorOffset = reader.start;
            running = false;
        }

        private boolean expect(int kind) {
            reader.next();
            if (reader.kind != kind) {
                fail(GRAMMAR);
                return false;
            }
            return true;
        }

        private void readHead() {
            reader.next();
            if (reader.isWord("roof")) {
                expect(Reader.SEMICOLON);
            } else {
                fail(GRAMMAR);
            }
        }

        /** Returns the command that is due, or null if a repeat, the end or an error was read. */
        private Command readStatement() {
            reader.next();
            if (reader.kind == Reader.END && depth == 0) {
                running = false;
                return null;
            }
            if (reader.kind == Reader.CLOSE && depth > 0) {
                closeRound();
                return null;
            }
            Command command = commandHere();
            if (command == null) {
                fail(GRAMMAR);
                return null;
            }
            if (command == Command.REPEAT) {
                openRepeat();
                return null;
            }
            if (executed >= MOST_COMMANDS) {
                fail(TOO_MANY);
                return null;
            }
            return readNumbers(command) && expect(Reader.SEMICOLON) ? command : null;
        }

        private Command commandHere() {
            for (int i = 0; i < COMMANDS.length; i++) {
                if (reader.isWord(COMMANDS[i].word)) {
                    return COMMANDS[i];
                }
            }
            return null;
        }

        private void openRepeat() {
            if (depth >= MOST_DEPTH) {
                fail(TOO_DEEP);
                return;
            }
            if (readNumbers(Command.REPEAT) && expect(Reader.OPEN)) {
                bodyStart[depth] = reader.at;
                roundsLeft[depth] = numbers[0];
                depth++;
            }
        }

        private void closeRound() {
            int inner = depth - 1;
            roundsLeft[inner]--;
            if (roundsLeft[inner] > 0) {
                reader.at = bodyStart[inner];
            } else {
                depth = inner;
                expect(Reader.SEMICOLON);
            }
        }

        private boolean readNumbers(Command command) {
            String places = command.places;
            for (int i = 0; i < places.length() && i < MOST_NUMBERS; i++) {
                if (!expect(Reader.NUMBER)) {
                    return false;
                }
                if (!fits(places.charAt(i), reader.number)) {
                    fail(BAD_NUMBER);
                    return false;
                }
                numbers[i] = reader.number;
            }
            return true;
        }

        private boolean fits(int place, int number) {
            switch (place) {
                case 'h':
                    return roof.hasChimney(number);
                case 'H':
                    return roof.hasChimney(number) && number != numbers[0];
                case 'c':
                    return roof.hasCat(number);
                case 'C':
                    return roof.hasCat(number) && number != numbers[0];
                case 'g':
                    return roof.hasGutter(number);
                case 'w':
                    return number <= MOST_WARMTH;
                case 's':
                    return number >= 1 && number <= MOST_SIZE;
                case 'f':
                    return number >= 1 && number <= MOST_PRICE;
                case 't':
                    return number >= 1 && number <= MOST_TRUCE;
                case 'n':
                    return number >= 1 && number <= MOST_NIGHTS;
                case 'r':
                    return number >= 1 && number <= MOST_ROUNDS;
                default:
                    return false;
            }
        }

        private boolean isRefused(Command command) {
            int first = numbers[0];
            int second = numbers[1];
            switch (command) {
                case CHIMNEY:
                    return roof.chimneys >= MOST_CHIMNEYS;
                case GUTTER:
                    return roof.gutters >= MOST_GUTTERS;
                case CAT:
                    return roof.refusesCat(first);
                case STEP:
                    return roof.stepRefusal(first, second) != ALLOWED;
                case CLAIM:
                    return roof.claimRefusal(first) != ALLOWED;
                case ABANDON:
                    return roof.owner[first] == NONE;
                case CHASE:
                    return roof.chaseRefusal(first, second) != ALLOWED;
                case TRUCE:
                    return roof.refusesTruce(first, second, numbers[2]);
                case KITTEN:
                    return roof.refusesKitten();
                case YES:
                case NO:
                    return roof.refusesVote(first);
                case NIGHTS:
                    return roof.refusesNights(first);
                default:
                    return true;
            }
        }

        private void apply(Command command) {
            int first = numbers[0];
            int second = numbers[1];
            switch (command) {
                case CHIMNEY:
                    roof.putChimney(first);
                    break;
                case GUTTER:
                    roof.putGutter(first, second, numbers[2]);
                    break;
                case CAT:
                    roof.putCat(first, second, numbers[2]);
                    break;
                case STEP:
                    roof.walk(first, second);
                    break;
                case CLAIM:
                    roof.takeSeat(first);
                    break;
                case ABANDON:
                    roof.release(first);
                    break;
                case CHASE:
                    roof.driveAway(first, second);
                    break;
                case TRUCE:
                    roof.agreeTruce(first, second, numbers[2], numbers[3]);
                    break;
                case KITTEN:
                    roof.kitten.arrive(first, second);
                    break;
                case YES:
                case NO:
                    roof.takeVote(first, command == Command.YES);
                    break;
                case NIGHTS:
                    roof.spendNights(first);
                    break;
                default:
                    break;
            }
        }
    }

    /** The text that writeRoof() leaves for reportByte(). */
    private static final class Report {
        // Ten chimneys of at most five bytes, and the spaces between them.
        private static final int MOST_REPORT = 6 * MOST_CHIMNEYS - 1;

        final byte[] bytes = new byte[MOST_REPORT];
        int length = 0;

        void write(Roof roof) {
            length = 0;
            for (int chimney = 0; chimney < roof.chimneys; chimney++) {
                if (chimney > 0) {
                    put(' ');
                }
                put('0' + roof.warmth[chimney]);
                putCat('c', roof.sitter(chimney));
                putCat('o', roof.owner[chimney]);
            }
        }

        private void putCat(int sign, int cat) {
            if (cat != NONE) {
                put(sign);
                put('0' + cat);
            }
        }

        private void put(int sign) {
            if (length < MOST_REPORT) {
                bytes[length] = (byte) sign;
                length++;
            }
        }
    }
}
