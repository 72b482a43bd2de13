import java.util.ArrayDeque;
import java.util.ArrayList;
import java.util.Deque;
import java.util.HashMap;
import java.util.List;
import java.util.Map;
import java.util.NoSuchElementException;
import java.util.Set;
import java.util.TreeSet;
import java.util.regex.Matcher;
import java.util.regex.Pattern;

/** The document, read a second time into the plainest program that says the same; BookTest holds the class against it. */
public final class ByTheBook {
    private static final int NONE = -1;

    private record Gutter(int one, int other, int width) {
        boolean endsAt(int chimney) {
            return one == chimney || other == chimney;
        }

        int from(int chimney) {
            return one + other - chimney;
        }
    }

    private static final class Cat {
        final int girth;
        final int strength;
        int fish = 5;
        int seat;

        Cat(int girth, int strength, int seat) {
            this.girth = girth;
            this.strength = strength;
            this.seat = seat;
        }

        Cat copy() {
            Cat copy = new Cat(girth, strength, seat);
            copy.fish = fish;
            return copy;
        }
    }

    /** Everything that undo restores. */
    private static final class State {
        final List<Integer> warmth = new ArrayList<>();
        final Map<Integer, Integer> owners = new HashMap<>();
        final List<Gutter> gutters = new ArrayList<>();
        final List<Cat> cats = new ArrayList<>();
        /** The nights that are left, for the set of both cats. */
        final Map<Set<Integer>, Integer> truces = new HashMap<>();
        int night = 0;
        boolean waiting = false;
        int kittenGirth = 0;
        int kittenStrength = 0;
        final Map<Integer, Boolean> votes = new HashMap<>();

        State copy() {
            State copy = new State();
            copy.warmth.addAll(warmth);
            copy.owners.putAll(owners);
            copy.gutters.addAll(gutters);
            for (Cat cat : cats) {
                copy.cats.add(cat.copy());
            }
            copy.truces.putAll(truces);
            copy.night = night;
            copy.waiting = waiting;
            copy.kittenGirth = kittenGirth;
            copy.kittenStrength = kittenStrength;
            copy.votes.putAll(votes);
            return copy;
        }
    }

    private State now = new State();
    private State saved = null;
    private final Deque<State> past = new ArrayDeque<>();
    private String input = "";
    private String report = "";
    private int errorKind = 0;
    private int errorOffset = NONE;

    public ByTheBook() {
        input = Text.FIRST;
        runScript();
        past.clear();
    }

    // ---- input

    public int append(int a, int b, int c, int d, int e) {
        if (input.length() + 20 > 600) {
            return NONE;
        }
        for (int four : new int[] {a, b, c, d, e}) {
            input += "" + (char) (four >>> 24) + (char) (four >>> 16 & 255) + (char) (four >>> 8 & 255) + (char) (four & 255);
        }
        return input.length();
    }

    public int truncateInput(int length) {
        argument(length >= 0 && length <= input.length());
        input = input.substring(0, length);
        return length;
    }

    // ---- changes

    public int runScript() {
        ByTheBook fresh = new ByTheBook(new State());
        String text = input;
        input = "";
        try {
            new Reading(text, fresh).script();
        } catch (Mistake mistake) {
            errorKind = mistake.kind;
            errorOffset = mistake.offset;
            return NONE;
        }
        errorKind = 0;
        errorOffset = NONE;
        remember();
        now = fresh.now;
        return now.cats.size();
    }

    private ByTheBook(State state) {
        now = state;
    }

    public int addChimney(int warmth) {
        argument(warmth >= 0 && warmth <= 9);
        state(now.warmth.size() < 10);
        remember();
        now.warmth.add(warmth);
        return now.warmth.size() - 1;
    }

    public int addGutter(int one, int other, int width) {
        place(isChimney(one) && isChimney(other));
        argument(one != other && width >= 1 && width <= 9);
        state(now.gutters.size() < 20);
        remember();
        now.gutters.add(new Gutter(one, other, width));
        return now.gutters.size() - 1;
    }

    public int addCat(int chimney, int girth, int strength) {
        place(isChimney(chimney));
        argument(girth >= 1 && girth <= 9 && strength >= 1 && strength <= 9);
        state(now.cats.size() < 8 && catOn(chimney) == NONE);
        remember();
        now.cats.add(new Cat(girth, strength, chimney));
        return now.cats.size() - 1;
    }

    public int step(int cat, int gutter) {
        state(whyNoStep(cat, gutter) == 0);
        remember();
        Cat walker = now.cats.get(cat);
        walker.seat = now.gutters.get(gutter).from(walker.seat);
        return walker.seat;
    }

    public int claim(int cat) {
        state(whyNoClaim(cat) == 0);
        remember();
        now.owners.put(now.cats.get(cat).seat, cat);
        return owned(cat);
    }

    public int abandon(int chimney) {
        state(ownerOf(chimney) != NONE);
        remember();
        return now.owners.remove(chimney);
    }

    public boolean chase(int cat, int target) {
        state(whyNoChase(cat, target) == 0);
        remember();
        Cat hunter = now.cats.get(cat);
        Cat prey = now.cats.get(target);
        int lost = prey.seat;
        prey.seat = hunter.seat;
        hunter.seat = lost;
        if (ownerOf(lost) == target) {
            now.owners.remove(lost);
            if (owned(cat) < 4) {
                now.owners.put(lost, cat);
            }
        }
        if (prey.fish > 0 && hunter.fish < 99) {
            prey.fish -= 1;
            hunter.fish += 1;
        }
        return ownerOf(lost) == cat;
    }

    public int buyTruce(int cat, int other, int fish, int nights) {
        boolean truce = truceNights(cat, other) > 0;
        argument(fish >= 1 && fish <= 9 && nights >= 1 && nights <= 20);
        state(!truce && fish(cat) >= fish && fish(other) + fish <= 99);
        remember();
        now.cats.get(cat).fish -= fish;
        now.cats.get(other).fish += fish;
        now.truces.put(Set.of(cat, other), nights);
        return now.night + nights;
    }

    public int nominate(int girth, int strength) {
        argument(girth >= 1 && girth <= 9 && strength >= 1 && strength <= 9);
        state(!now.waiting && !now.cats.isEmpty() && now.cats.size() != 8);
        remember();
        now.waiting = true;
        now.kittenGirth = girth;
        now.kittenStrength = strength;
        now.votes.clear();
        return now.cats.size();
    }

    public boolean vote(int cat, boolean yes) {
        place(isCat(cat));
        state(now.waiting && !now.votes.containsKey(cat));
        remember();
        now.votes.put(cat, yes);
        if (now.votes.size() < now.cats.size()) {
            return false;
        }
        int seat = warmestFree();
        boolean admitted = votesFor() > votesAgainst() && now.cats.size() < 8 && seat != NONE;
        if (admitted) {
            now.cats.add(new Cat(now.kittenGirth, now.kittenStrength, seat));
        }
        now.waiting = false;
        return admitted;
    }

    public int passNights(int nights) {
        argument(nights >= 1 && nights <= 30);
        state(now.night <= 999 - nights);
        remember();
        for (int i = 0; i < nights; i++) {
            passNight();
        }
        return now.night;
    }

    private void passNight() {
        now.night += 1;
        now.truces.replaceAll((both, left) -> left - 1);
        now.truces.values().removeIf(left -> left == 0);
        for (int i = 0; i < now.cats.size(); i++) {
            Cat cat = now.cats.get(i);
            if (ownerOf(cat.seat) == i) {
                cat.fish = Math.min(cat.fish + now.warmth.get(cat.seat) / 3, 99);
            } else if (cat.fish > 0) {
                cat.fish -= 1;
            }
        }
        if (moonPhase() == 4) {
            int choir = largestChoir();
            for (int i = 0; i < now.cats.size(); i++) {
                if (members(choir).contains(i)) {
                    now.cats.get(i).fish = Math.min(now.cats.get(i).fish + members(choir).size(), 99);
                }
            }
        }
    }

    // ---- undo and the snapshot

    public int undo() {
        if (past.isEmpty()) {
            return NONE;
        }
        now = past.pop();
        return past.size();
    }

    public int undoCount() {
        return past.size();
    }

    public int saveSnapshot() {
        saved = now.copy();
        return now.night;
    }

    public int restoreSnapshot() {
        if (saved == null) {
            throw new NoSuchElementException();
        }
        now = saved.copy();
        past.clear();
        return now.night;
    }

    // ---- the script error

    public int scriptErrorKind() {
        return errorKind;
    }

    public int scriptErrorOffset() {
        return errorOffset;
    }

    // ---- the roof

    public int chimneyCount() {
        return now.warmth.size();
    }

    public int gutterCount() {
        return now.gutters.size();
    }

    public int catCount() {
        return now.cats.size();
    }

    public int night() {
        return now.night;
    }

    public int moonPhase() {
        return now.night % 8;
    }

    public int warmth(int chimney) {
        place(isChimney(chimney));
        return now.warmth.get(chimney);
    }

    public int ownerOf(int chimney) {
        place(isChimney(chimney));
        return now.owners.getOrDefault(chimney, NONE);
    }

    public int catOn(int chimney) {
        place(isChimney(chimney));
        for (Cat cat : now.cats) {
            if (cat.seat == chimney) {
                return now.cats.indexOf(cat);
            }
        }
        return NONE;
    }

    public int gutterEnds(int gutter) {
        place(isGutter(gutter));
        return set(Set.of(now.gutters.get(gutter).one, now.gutters.get(gutter).other));
    }

    public int width(int gutter) {
        place(isGutter(gutter));
        return now.gutters.get(gutter).width;
    }

    public int widestWay(int chimney, int target) {
        place(isChimney(chimney) && isChimney(target));
        for (int girth = 9; girth >= 1; girth--) {
            if (leads(chimney, target, girth, new TreeSet<>())) {
                return girth;
            }
        }
        return NONE;
    }

    private boolean leads(int chimney, int target, int girth, Set<Integer> been) {
        if (chimney == target) {
            return true;
        }
        been.add(chimney);
        for (Gutter gutter : now.gutters) {
            if (gutter.endsAt(chimney) && gutter.width >= girth && !been.contains(gutter.from(chimney))
                    && leads(gutter.from(chimney), target, girth, been)) {
                return true;
            }
        }
        return false;
    }

    public int warmestFree() {
        for (int warmth = 9; warmth >= 0; warmth--) {
            for (int chimney = 0; chimney < now.warmth.size(); chimney++) {
                if (now.warmth.get(chimney) == warmth && catOn(chimney) == NONE) {
                    return chimney;
                }
            }
        }
        return NONE;
    }

    // ---- cats

    public int girth(int cat) {
        place(isCat(cat));
        return now.cats.get(cat).girth;
    }

    public int power(int cat) {
        place(isCat(cat));
        return now.cats.get(cat).strength + (ownerOf(now.cats.get(cat).seat) == cat ? 2 : 0);
    }

    public int fish(int cat) {
        place(isCat(cat));
        return now.cats.get(cat).fish;
    }

    public int chimneyOf(int cat) {
        place(isCat(cat));
        return now.cats.get(cat).seat;
    }

    public int ownedChimneys(int cat) {
        place(isCat(cat));
        Set<Integer> owned = new TreeSet<>();
        now.owners.forEach((chimney, owner) -> {
            if (owner == cat) {
                owned.add(chimney);
            }
        });
        return set(owned);
    }

    private int owned(int cat) {
        return members(ownedChimneys(cat)).size();
    }

    public int truceNights(int cat, int other) {
        place(isCat(cat) && isCat(other));
        argument(cat != other);
        return now.truces.getOrDefault(Set.of(cat, other), 0);
    }

    public int reachable(int cat) {
        return set(steps(cat).keySet());
    }

    public int stepsTo(int cat, int chimney) {
        Map<Integer, Integer> steps = steps(cat);
        place(isChimney(chimney));
        return steps.getOrDefault(chimney, NONE);
    }

    /** For each chimney that the cat can reach, the fewest steps; the cat is led through all ways for that. */
    private Map<Integer, Integer> steps(int cat) {
        int home = chimneyOf(cat);
        Map<Integer, Integer> steps = new HashMap<>(Map.of(home, 0));
        for (boolean found = true; found; ) {
            found = false;
            for (int chimney : new TreeSet<>(steps.keySet())) {
                now.cats.get(cat).seat = chimney;
                for (int gutter : members(openGutters(cat))) {
                    int there = now.gutters.get(gutter).from(chimney);
                    if (steps.getOrDefault(there, 1000) > steps.get(chimney) + 1) {
                        steps.put(there, steps.get(chimney) + 1);
                        found = true;
                    }
                }
            }
        }
        now.cats.get(cat).seat = home;
        return steps;
    }

    public int openGutters(int cat) {
        place(isCat(cat));
        Set<Integer> open = new TreeSet<>();
        for (int gutter = 0; gutter < now.gutters.size(); gutter++) {
            if (whyNoStep(cat, gutter) == 0) {
                open.add(gutter);
            }
        }
        return set(open);
    }

    // ---- reasons

    public int whyNoStep(int cat, int number) {
        place(isCat(cat) && isGutter(number));
        Gutter gutter = now.gutters.get(number);
        if (!gutter.endsAt(chimneyOf(cat))) {
            return 1;
        }
        int there = gutter.from(chimneyOf(cat));
        int owner = ownerOf(there);
        boolean trespass = owner != NONE && owner != cat && truceNights(cat, owner) == 0;
        return gutter.width < girth(cat) ? 2 : catOn(there) != NONE ? 3 : trespass ? 4 : 0;
    }

    public int whyNoClaim(int cat) {
        return ownerOf(chimneyOf(cat)) != NONE ? 5 : owned(cat) == 4 ? 6 : 0;
    }

    public int whyNoChase(int cat, int target) {
        boolean truce = truceNights(cat, target) > 0;
        boolean near = false;
        for (Gutter gutter : now.gutters) {
            near |= gutter.endsAt(chimneyOf(cat)) && gutter.endsAt(chimneyOf(target)) && gutter.width >= girth(cat);
        }
        return !near ? 7 : truce ? 8 : power(cat) <= power(target) ? 9 : 0;
    }

    public int preyOf(int cat) {
        place(isCat(cat));
        Set<Integer> prey = new TreeSet<>();
        for (int other = 0; other < now.cats.size(); other++) {
            if (other != cat && whyNoChase(cat, other) == 0) {
                prey.add(other);
            }
        }
        return set(prey);
    }

    // ---- kittens

    public boolean isKittenWaiting() {
        return now.waiting;
    }

    public int votesFor() {
        return votes(true);
    }

    public int votesAgainst() {
        return votes(false);
    }

    private int votes(boolean yes) {
        return now.waiting ? (int) now.votes.values().stream().filter(vote -> vote == yes).count() : 0;
    }

    public boolean hasVoted(int cat) {
        place(isCat(cat));
        return now.waiting && now.votes.containsKey(cat);
    }

    // ---- choirs and fish

    public int choirOf(int cat) {
        place(isCat(cat));
        Set<Integer> choir = new TreeSet<>();
        sing(cat, choir);
        return set(choir);
    }

    private void sing(int cat, Set<Integer> choir) {
        if (choir.add(cat)) {
            for (Gutter gutter : now.gutters) {
                int neighbour = gutter.endsAt(chimneyOf(cat)) ? catOn(gutter.from(chimneyOf(cat))) : NONE;
                if (neighbour != NONE) {
                    sing(neighbour, choir);
                }
            }
        }
    }

    public int choirCount() {
        return choirs().size();
    }

    private Set<Integer> choirs() {
        Set<Integer> choirs = new TreeSet<>();
        for (int cat = 0; cat < now.cats.size(); cat++) {
            choirs.add(choirOf(cat));
        }
        return choirs;
    }

    public int largestChoir() {
        int size = 0;
        for (int choir : choirs()) {
            size = Math.max(size, members(choir).size());
        }
        for (int cat = 0; cat < now.cats.size(); cat++) {
            if (members(choirOf(cat)).size() == size) {
                return choirOf(cat);
            }
        }
        return 0;
    }

    public int nightsToFullMoon() {
        int nights = 1;
        while ((now.night + nights) % 8 != 4) {
            nights++;
        }
        return nights;
    }

    public int fishAfter(int cat, int nights) {
        place(isCat(cat));
        argument(nights >= 0 && nights <= 30);
        ByTheBook later = new ByTheBook(now.copy());
        for (int i = 0; i < nights; i++) {
            later.passNight();
        }
        return later.fish(cat);
    }

    public int richestCat() {
        for (int most = 99; most >= 0; most--) {
            for (int cat = 0; cat < now.cats.size(); cat++) {
                if (fish(cat) == most) {
                    return cat;
                }
            }
        }
        return NONE;
    }

    public int totalFish() {
        return now.cats.stream().mapToInt(cat -> cat.fish).sum();
    }

    // ---- means and checks

    public double meanFish() {
        return now.cats.isEmpty() ? 0.0 : (double) totalFish() / (double) now.cats.size();
    }

    public float ownedShare() {
        return now.warmth.isEmpty() ? 0.0f : (float) now.owners.size() / (float) now.warmth.size();
    }

    public int violations() {
        return 0;
    }

    // ---- the report

    public int writeRoof() {
        List<String> parts = new ArrayList<>();
        for (int chimney = 0; chimney < now.warmth.size(); chimney++) {
            String cat = catOn(chimney) == NONE ? "" : "c" + catOn(chimney);
            String owner = ownerOf(chimney) == NONE ? "" : "o" + ownerOf(chimney);
            parts.add(warmth(chimney) + cat + owner);
        }
        report = String.join(" ", parts);
        return report.length();
    }

    public int reportByte(int index) {
        return index >= 0 && index < report.length() ? report.charAt(index) : NONE;
    }

    // ---- what the methods need

    private boolean isChimney(int number) {
        return number >= 0 && number < now.warmth.size();
    }

    private boolean isGutter(int number) {
        return number >= 0 && number < now.gutters.size();
    }

    private boolean isCat(int number) {
        return number >= 0 && number < now.cats.size();
    }

    private static void place(boolean exists) {
        if (!exists) {
            throw new IndexOutOfBoundsException();
        }
    }

    private static void argument(boolean right) {
        if (!right) {
            throw new IllegalArgumentException();
        }
    }

    private static void state(boolean allows) {
        if (!allows) {
            throw new IllegalStateException();
        }
    }

    private void remember() {
        past.push(now.copy());
        if (past.size() > 8) {
            past.removeLast();
        }
    }

    private static int set(Set<Integer> elements) {
        return elements.stream().mapToInt(element -> 1 << element).sum();
    }

    private static Set<Integer> members(int set) {
        Set<Integer> members = new TreeSet<>();
        for (int i = 0; i < 31; i++) {
            if ((set >> i & 1) == 1) {
                members.add(i);
            }
        }
        return members;
    }

    // ---- scripts

    /** Whether a script has no error. */
    static boolean runs(String text) {
        try {
            new Reading(text, new ByTheBook(new State())).script();
            return true;
        } catch (Mistake mistake) {
            return false;
        }
    }

    private static final class Mistake extends RuntimeException {
        private static final long serialVersionUID = 1L;
        final int kind;
        final int offset;

        Mistake(int kind, int offset) {
            super(null, null, false, false);
            this.kind = kind;
            this.offset = offset;
        }
    }

    private record Token(String sign, int offset) {
        boolean isNumber() {
            return sign.matches("[0-9]{1,3}");
        }
    }

    /** All tokens are cut first; the repeats then go back to earlier ones. */
    private static final class Reading {
        private static final Pattern TOKEN = Pattern.compile("[a-z]+|[0-9]+|[^ \n]");

        private final List<Token> tokens = new ArrayList<>();
        private final ByTheBook roof;
        private int at = 0;
        private int executed = 0;

        Reading(String text, ByTheBook roof) {
            this.roof = roof;
            for (Matcher matcher = TOKEN.matcher(text); matcher.find(); ) {
                tokens.add(new Token(matcher.group(), matcher.start()));
            }
            tokens.add(new Token("the end", text.length()));
        }

        private Token take() {
            Token token = tokens.get(at);
            at = Math.min(at + 1, tokens.size() - 1);
            return token;
        }

        private Token take(String sign) {
            Token token = take();
            need(token.sign.equals(sign), 1, token);
            return token;
        }

        private static void need(boolean right, int kind, Token token) {
            if (!right) {
                throw new Mistake(kind, token.offset);
            }
        }

        private int number(int least, int most) {
            Token token = take();
            need(token.isNumber(), 1, token);
            int number = Integer.parseInt(token.sign);
            need(number >= least && number <= most, 2, token);
            return number;
        }

        private int another(int count, int first) {
            Token token = tokens.get(at);
            int number = number(0, count - 1);
            need(number != first, 2, token);
            return number;
        }

        private int chimney() {
            return number(0, roof.chimneyCount() - 1);
        }

        private int cat() {
            return number(0, roof.catCount() - 1);
        }

        private int size() {
            return number(1, 9);
        }

        void script() {
            take("roof");
            take(";");
            while (!tokens.get(at).sign.equals("the end")) {
                statement(0);
            }
        }

        private void statement(int repeats) {
            Token word = take();
            if (word.sign.equals("repeat")) {
                need(repeats < 2, 4, word);
                repeat(repeats + 1);
                take(";");
                return;
            }
            boolean known = "chimney gutter cat step claim abandon chase truce kitten yes no nights".matches(".*\\b\\Q" + word.sign + "\\E\\b.*");
            need(word.sign.matches("[a-z]+") && known, 1, word);
            need(executed < 200, 5, word);
            Runnable command = command(word.sign);
            Token end = take(";");
            try {
                command.run();
            } catch (IllegalStateException refused) {
                throw new Mistake(3, end.offset);
            }
            executed++;
        }

        private void repeat(int repeats) {
            int rounds = number(1, 20);
            take("(");
            int first = at;
            for (int round = 0; round < rounds; round++) {
                at = first;
                while (!tokens.get(at).sign.equals(")")) {
                    statement(repeats);
                }
                take(")");
            }
        }

        private Runnable command(String word) {
            if (word.equals("chimney")) {
                int warmth = number(0, 9);
                return () -> roof.addChimney(warmth);
            }
            if (word.equals("kitten")) {
                int girth = size();
                int strength = size();
                return () -> roof.nominate(girth, strength);
            }
            if (word.equals("nights")) {
                int nights = number(1, 30);
                return () -> roof.passNights(nights);
            }
            if (word.equals("gutter") || word.equals("cat") || word.equals("abandon")) {
                return onChimney(word, chimney());
            }
            return ofCat(word, cat());
        }

        private Runnable onChimney(String word, int chimney) {
            if (word.equals("abandon")) {
                return () -> roof.abandon(chimney);
            }
            int second = word.equals("gutter") ? another(roof.chimneyCount(), chimney) : size();
            int third = size();
            return word.equals("gutter") ? () -> roof.addGutter(chimney, second, third) : () -> roof.addCat(chimney, second, third);
        }

        private Runnable ofCat(String word, int cat) {
            if (word.equals("claim")) {
                return () -> roof.claim(cat);
            }
            if (word.equals("yes") || word.equals("no")) {
                return () -> roof.vote(cat, word.equals("yes"));
            }
            if (word.equals("step")) {
                int gutter = number(0, roof.gutterCount() - 1);
                return () -> roof.step(cat, gutter);
            }
            int other = another(roof.catCount(), cat);
            if (word.equals("chase")) {
                return () -> roof.chase(cat, other);
            }
            int fish = size();
            int nights = number(1, 20);
            return () -> roof.buyTruce(cat, other, fish, nights);
        }
    }
}
