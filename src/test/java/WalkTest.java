import java.util.ArrayDeque;
import java.util.ArrayList;
import java.util.Arrays;
import java.util.List;
import java.util.Random;
import java.util.TreeSet;

/** Long runs of calls with chosen and wild numbers, held against what the other calls tell. */
public final class WalkTest {
    private static final int NONE = RooftopCats.NONE;
    private static final int CALLS = 512;

    private final Random random;
    private final RooftopCats x = new RooftopCats();
    private final List<String> roofs = new ArrayList<>();
    private String snapshot = null;

    private WalkTest(int seed) {
        random = new Random(seed);
    }

    public static void main(String[] args) {
        for (int seed = 0; seed < 60; seed++) {
            new WalkTest(seed).run();
        }
        Check.end("WalkTest");
    }

    private void run() {
        Text.run(x, random.nextBoolean() ? Text.FIRST : "roof;repeat 6(chimney 5;);gutter 0 1 9;cat 0 1 9;");
        roofs.add(Look.atRoof(new RooftopCats()));
        for (int i = 0; i < CALLS; i++) {
            String before = Look.atRoof(x);
            int count = x.undoCount();
            boolean done = change();
            if (done) {
                roofs.add(before);
                Check.that("undo count", x.undoCount(), Math.min(count + 1, 8));
            } else {
                Check.that("a call that throws", Look.atRoof(x), before);
                Check.that("undo count", x.undoCount(), count);
            }
            Check.that("violations", x.violations(), 0);
            ways();
            refusals();
            choirs();
            if (random.nextInt(8) == 0) {
                undoSome();
            }
            if (random.nextInt(20) == 0) {
                snapshots();
            }
        }
    }

    /** Mostly a number that exists, sometimes a wrong one. */
    private int number(int least, int most) {
        int[] wild = {least - 1, most + 1, Integer.MIN_VALUE, Integer.MAX_VALUE};
        if (random.nextInt(25) == 0 || most < least) {
            return wild[random.nextInt(wild.length)];
        }
        return least + random.nextInt(most - least + 1);
    }

    private int cat() {
        return number(0, x.catCount() - 1);
    }

    private int chimney() {
        return number(0, x.chimneyCount() - 1);
    }

    private boolean change() {
        try {
            make(random.nextInt(20));
            return true;
        } catch (RuntimeException e) {
            boolean listed = e.getClass() == IndexOutOfBoundsException.class || e.getClass() == IllegalArgumentException.class
                    || e.getClass() == IllegalStateException.class;
            Check.that("listed exception " + e, listed, true);
            return false;
        }
    }

    private void make(int which) {
        switch (which) {
            case 0: x.addChimney(number(0, 9)); break;
            case 1: case 2: x.addGutter(chimney(), chimney(), number(1, 9)); break;
            case 3: x.addCat(chimney(), number(1, 9), number(1, 9)); break;
            case 4: case 5: case 6: x.step(cat(), number(0, x.gutterCount() - 1)); break;
            case 7: case 8: case 9: x.claim(cat()); break;
            case 10: x.abandon(chimney()); break;
            case 11: case 12: case 13: x.chase(cat(), cat()); break;
            case 14: x.buyTruce(cat(), cat(), number(1, 9), number(1, 20)); break;
            case 15: x.nominate(number(1, 9), number(1, 9)); break;
            case 16: case 17: case 18: x.vote(cat(), random.nextInt(3) > 0); break;
            default: x.passNights(number(1, random.nextInt(4) == 0 ? 30 : 3)); break;
        }
    }

    private void undoSome() {
        for (int i = random.nextInt(10); i > 0; i--) {
            int count = x.undoCount();
            Check.that("undo", x.undo(), count - 1 < 0 ? NONE : count - 1);
            if (count > 0) {
                Check.that("undone", Look.atRoof(x), roofs.remove(roofs.size() - 1));
            }
        }
    }

    private void snapshots() {
        if (snapshot == null || random.nextBoolean()) {
            Check.that("saved", x.saveSnapshot(), x.night());
            snapshot = Look.atRoof(x);
        } else {
            x.restoreSnapshot();
            Check.that("restored", Look.atRoof(x), snapshot);
            Check.that("no undo", x.undoCount(), 0);
            roofs.clear();
        }
    }

    private int low(int gutter) {
        return Integer.numberOfTrailingZeros(x.gutterEnds(gutter));
    }

    private int high(int gutter) {
        return 31 - Integer.numberOfLeadingZeros(x.gutterEnds(gutter));
    }

    /** The steps to each chimney, found by a queue. */
    private int[] distances(int cat) {
        int[] steps = new int[x.chimneyCount()];
        Arrays.fill(steps, NONE);
        steps[x.chimneyOf(cat)] = 0;
        ArrayDeque<Integer> queue = new ArrayDeque<>();
        queue.add(x.chimneyOf(cat));
        while (!queue.isEmpty()) {
            int here = queue.remove();
            for (int gutter = 0; gutter < x.gutterCount(); gutter++) {
                int there = low(gutter) == here ? high(gutter) : high(gutter) == here ? low(gutter) : NONE;
                if (there != NONE && steps[there] == NONE && x.width(gutter) >= x.girth(cat) && isOpen(cat, there)) {
                    steps[there] = steps[here] + 1;
                    queue.add(there);
                }
            }
        }
        return steps;
    }

    private boolean isOpen(int cat, int chimney) {
        int owner = x.ownerOf(chimney);
        return x.catOn(chimney) == NONE && (owner == NONE || owner == cat || x.truceNights(cat, owner) > 0);
    }

    private void ways() {
        for (int cat = 0; cat < x.catCount(); cat++) {
            int[] steps = distances(cat);
            int set = 0;
            for (int chimney = 0; chimney < steps.length; chimney++) {
                Check.that("stepsTo", x.stepsTo(cat, chimney), steps[chimney]);
                set |= steps[chimney] == NONE ? 0 : 1 << chimney;
            }
            Check.that("reachable", x.reachable(cat), set);
        }
        int[][] widest = new int[10][10];
        for (int[] row : widest) {
            Arrays.fill(row, NONE);
        }
        for (int gutter = 0; gutter < x.gutterCount(); gutter++) {
            widest[low(gutter)][high(gutter)] = Math.max(widest[low(gutter)][high(gutter)], x.width(gutter));
            widest[high(gutter)][low(gutter)] = widest[low(gutter)][high(gutter)];
        }
        for (int by = 0; by < 10; by++) {
            for (int from = 0; from < 10; from++) {
                for (int to = 0; to < 10; to++) {
                    widest[from][to] = Math.max(widest[from][to], Math.min(widest[from][by], widest[by][to]));
                }
            }
        }
        for (int from = 0; from < x.chimneyCount(); from++) {
            for (int to = 0; to < x.chimneyCount(); to++) {
                Check.that("widestWay", x.widestWay(from, to), from == to ? 9 : widest[from][to]);
            }
        }
    }

    /** A call is refused just when the reason says so. */
    private void refusals() {
        for (int cat = 0; cat < x.catCount(); cat++) {
            int self = cat;
            int open = 0;
            for (int gutter = 0; gutter < x.gutterCount(); gutter++) {
                int way = gutter;
                int reason = x.whyNoStep(cat, gutter);
                Check.that("whyNoStep", reason, reasonOfStep(cat, gutter));
                open |= reason == 0 ? 1 << gutter : 0;
                if (reason != 0 && random.nextInt(30) == 0) {
                    Check.refused(x, "step", () -> x.step(self, way));
                }
            }
            Check.that("openGutters", x.openGutters(cat), open);
            int prey = 0;
            for (int target = 0; target < x.catCount(); target++) {
                int other = target;
                if (target != cat) {
                    int reason = x.whyNoChase(cat, target);
                    prey |= reason == 0 ? 1 << target : 0;
                    if (reason != 0 && random.nextInt(10) == 0) {
                        Check.refused(x, "chase", () -> x.chase(self, other));
                    }
                }
            }
            Check.that("preyOf", x.preyOf(cat), prey);
            int reason = x.whyNoClaim(cat);
            int owned = Integer.bitCount(x.ownedChimneys(cat));
            Check.that("whyNoClaim", reason, x.ownerOf(x.chimneyOf(cat)) != NONE ? 5 : owned >= 4 ? 6 : 0);
            Check.that("owned", owned <= 4, true);
            if (reason != 0) {
                Check.refused(x, "claim", () -> x.claim(self));
            }
        }
    }

    private int reasonOfStep(int cat, int gutter) {
        int here = x.chimneyOf(cat);
        if ((x.gutterEnds(gutter) >> here & 1) == 0) {
            return 1;
        }
        int there = low(gutter) == here ? high(gutter) : low(gutter);
        return x.width(gutter) < x.girth(cat) ? 2 : x.catOn(there) != NONE ? 3 : isOpen(cat, there) ? 0 : 4;
    }

    private void choirs() {
        int cats = x.catCount();
        int[] choir = new int[cats];
        for (int cat = 0; cat < cats; cat++) {
            choir[cat] = 1 << cat;
        }
        for (int round = 0; round < cats; round++) {
            for (int gutter = 0; gutter < x.gutterCount(); gutter++) {
                int one = x.catOn(low(gutter));
                int other = x.catOn(high(gutter));
                if (one != NONE && other != NONE) {
                    choir[one] |= choir[other];
                    choir[other] = choir[one];
                }
            }
        }
        TreeSet<Integer> all = new TreeSet<>();
        int largest = 0;
        for (int cat = 0; cat < cats; cat++) {
            Check.that("choirOf", x.choirOf(cat), choir[cat]);
            all.add(choir[cat]);
            largest = Integer.bitCount(choir[cat]) > Integer.bitCount(largest) ? choir[cat] : largest;
        }
        Check.that("choirCount", x.choirCount(), all.size());
        Check.that("largestChoir", x.largestChoir(), largest);
        nights(largest);
    }

    private void nights(int largest) {
        int nights = random.nextInt(31);
        for (int cat = 0; cat < x.catCount(); cat++) {
            int fish = x.fish(cat);
            boolean home = x.ownerOf(x.chimneyOf(cat)) == cat;
            for (int night = x.night() + 1; night <= x.night() + nights; night++) {
                fish = home ? Math.min(99, fish + x.warmth(x.chimneyOf(cat)) / 3) : Math.max(0, fish - 1);
                if (night % 8 == 4 && (largest >> cat & 1) == 1) {
                    fish = Math.min(99, fish + Integer.bitCount(largest));
                }
            }
            Check.that("fishAfter", x.fishAfter(cat, nights), fish);
        }
    }
}
