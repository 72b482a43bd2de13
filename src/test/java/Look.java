/** What can be seen of an object from outside. */
final class Look {
    private Look() {
    }

    /** All that undo restores. */
    static String atRoof(RooftopCats x) {
        StringBuilder seen = new StringBuilder();
        seen.append("night ").append(x.night()).append(" moon ").append(x.moonPhase());
        for (int i = 0; i < x.chimneyCount(); i++) {
            seen.append("; chimney ").append(x.warmth(i)).append(' ').append(x.ownerOf(i)).append(' ').append(x.catOn(i));
        }
        for (int i = 0; i < x.gutterCount(); i++) {
            seen.append("; gutter ").append(x.gutterEnds(i)).append(' ').append(x.width(i));
        }
        for (int i = 0; i < x.catCount(); i++) {
            seen.append("; cat ").append(x.girth(i)).append(' ').append(x.power(i)).append(' ').append(x.fish(i));
            seen.append(' ').append(x.chimneyOf(i)).append(' ').append(x.hasVoted(i)).append(" truces");
            for (int j = 0; j < x.catCount(); j++) {
                seen.append(' ').append(i == j ? 0 : x.truceNights(i, j));
            }
        }
        seen.append("; kitten ").append(x.isKittenWaiting()).append(' ').append(x.votesFor()).append(' ').append(x.votesAgainst());
        return seen.append("; violations ").append(x.violations()).toString();
    }

    /** Also what undo leaves, but for the input buffer and the snapshot, which cannot be seen. */
    static String at(RooftopCats x) {
        StringBuilder seen = new StringBuilder(atRoof(x));
        seen.append("; undo ").append(x.undoCount());
        seen.append("; error ").append(x.scriptErrorKind()).append(' ').append(x.scriptErrorOffset());
        return seen.append("; report ").append(report(x)).toString();
    }

    static String report(RooftopCats x) {
        StringBuilder text = new StringBuilder();
        for (int i = 0; x.reportByte(i) != RooftopCats.NONE; i++) {
            text.append((char) x.reportByte(i));
        }
        return text.toString();
    }
}
