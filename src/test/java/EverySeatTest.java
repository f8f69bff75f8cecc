/** What one seat does with another one, for every two of the seven, the first and the last ones too. */
public final class EverySeatTest {
    private static final Class<?> UNSUPPORTED = UnsupportedOperationException.class;
    private static final Checks CHECKS = new Checks("EverySeatTest");
    private static final int SEATS = 7;

    private final int a;
    private final int b;
    private final int c;

    private EverySeatTest(int a, int b) {
        this.a = a;
        this.b = b;
        int other = SEATS - 1;
        while (other == a || other == b) {
            other--;
        }
        c = other;
    }

    public static void main(String[] args) {
        for (int a = 0; a < SEATS; a++) {
            for (int b = 0; b < SEATS; b++) {
                if (a != b) {
                    EverySeatTest test = new EverySeatTest(a, b);
                    test.acts();
                    test.sees();
                    test.silences();
                    test.usesUp();
                    test.ties();
                    test.votes();
                    test.ghosts();
                    test.claims();
                    test.changes();
                }
            }
        }
        CHECKS.end();
    }

    private void is(String what, Object got, Object due) {
        CHECKS.is(what + ", " + a + " with " + b, got, due);
    }

    /** Role 0 is that of a, 1 that of b, 2 that of c, 3 that of the others; the last two have no act. */
    private NightfallVillage village(char actOfA, char actOfB, char actOfC, boolean isOnce, boolean isHunter) {
        NightfallVillage village = new NightfallVillage();
        village.role('v', actOfA, 1, isOnce, false, isHunter);
        village.role('w', actOfB, 1, false, false, false);
        village.role('v', actOfC, 1, false, false, false);
        village.role('v', '-', 1, false, false, false);
        for (int seat = 0; seat < SEATS; seat++) {
            village.seat(seat == a ? 0 : seat == b ? 1 : seat == c ? 2 : 3);
        }
        return village;
    }

    private NightfallVillage begun(char actOfA, char actOfB, char actOfC) {
        NightfallVillage village = village(actOfA, actOfB, actOfC, false, false);
        village.begin();
        return village;
    }

    /** The night in which a acts on b, b on c, and c on b, as far as they have an act. */
    private String deaths(char actOfA, char actOfB, char actOfC) {
        NightfallVillage village = begun(actOfA, actOfB, actOfC);
        Checks.answer(() -> village.act(a, b));
        Checks.answer(() -> village.act(b, c));
        Checks.answer(() -> village.act(c, b));
        village.dawn();
        is("the first one acts", village.didAct(a), actOfA != '-');
        return Villages.deaths(village, SEATS);
    }

    private static String all(int seat, char cause) {
        return all(seat, cause, -1, '-');
    }

    private static String all(int seat, char cause, int other, char otherCause) {
        StringBuilder text = new StringBuilder("-------");
        text.setCharAt(seat, cause);
        if (other >= 0) {
            text.setCharAt(other, otherCause);
        }
        return text.toString();
    }

    private void acts() {
        is("kills", deaths('k', '-', '-'), all(b, 'k'));
        is("kills one who kills", deaths('k', 'k', '-'), all(b, 'k', c, 'k'));
        is("blocks one who kills", deaths('b', 'k', '-'), "-------");
        is("turns one who kills", deaths('r', 'k', '-'), all(a, 'k'));
        is("makes one drunk who kills", deaths('d', 'k', '-'), "-------");
        is("protects", deaths('p', '-', 'k'), "-------");
        is("does not protect others", deaths('p', 'k', '-'), all(c, 'k'));
        is("nothing", deaths('-', '-', '-'), "-------");
        NightfallVillage block = begun('b', 'b', 'k');
        Villages.tell(block, "" + a + b, "" + b + c, "" + c + a);
        block.dawn();
        is("blocks one who blocks", Villages.deaths(block, SEATS), all(a, 'k'));
        is("and only one block holds", block.didAct(b), false);
    }

    private void sees() {
        NightfallVillage village = begun('s', '-', '-');
        is("the first target", village.act(a, b), false);
        is("the same one again", village.act(a, b), true);
        village.dawn();
        for (int seat = 0; seat < SEATS; seat++) {
            is("is told", village.told(seat, 0), seat == a ? 'w' : '-');
            is("sees", village.seen(seat, 0), seat == a ? b : -1);
            is("knows", village.sure(a, seat), seat == b ? 'w' : 'v');
        }
        is("worlds", village.worlds(a), 5);
        is("those in which it is so", village.possible(a, b, 1), 5);
        is("those in which it is not", village.possible(a, b, 3), 0);
        is("another one does not know", village.sure(c, b), '?');
    }

    private void silences() {
        NightfallVillage village = begun('q', '-', '-');
        village.act(a, b);
        village.dawn();
        for (int seat = 0; seat < SEATS; seat++) {
            int each = seat;
            is("silences", village.isSilenced(seat), seat == b);
            is("votes", Checks.answer(() -> village.vote(each, a)), seat == b ? UNSUPPORTED : (Object) false);
        }
        is("the sum of the others", village.votes(a), 6);
    }

    private void usesUp() {
        NightfallVillage village = village('s', '-', '-', true, false);
        village.begin();
        village.act(a, b);
        Villages.day(village);
        is("once alone", Checks.answer(() -> village.act(a, c)), UNSUPPORTED);
    }

    private void ties() {
        NightfallVillage village = village('-', '-', 'k', false, true);
        is("marks nobody before", village.mark(a, b), -1);
        is("marks one", village.mark(a, b), b);
        is("heir of nobody", village.heir(a, c), -1);
        is("heir of one", village.heir(a, b), c);
        is("lovers", village.lovers(b, a), false);
        is("lovers again", village.lovers(a, b), true);
        village.begin();
        village.act(c, a);
        is("two die", village.dawn(), 2);
        is("by love", Villages.deaths(village, SEATS), all(a, 'k', b, 'l'));
        NightfallVillage hunter = village('-', '-', 'k', false, true);
        hunter.begin();
        is("marks nobody at night", hunter.mark(a, b), -1);
        hunter.act(c, a);
        hunter.dawn();
        is("by a hunter", Villages.deaths(hunter, SEATS), all(a, 'k', b, 'h'));
        NightfallVillage heir = village('-', '-', 'k', false, true);
        heir.heir(a, b);
        heir.begin();
        heir.act(c, b);
        heir.dawn();
        for (int seat = 0; seat < SEATS; seat++) {
            is("an heir", heir.roleOf(seat), seat == a || seat == b ? 1 : seat == c ? 2 : 3);
        }
    }

    private void votes() {
        NightfallVillage village = begun('-', '-', '-');
        village.dawn();
        is("votes", village.vote(a, b), false);
        is("votes again", village.vote(a, b), true);
        for (int seat = 0; seat < SEATS; seat++) {
            is("the sum", village.votes(seat), seat == b ? 1 : 0);
        }
        is("exiles", village.dusk(), b);
        is("dies by that", Villages.deaths(village, SEATS), all(b, 'x'));
        is("all others live", Villages.living(village, SEATS), "0123456".replace("" + b, ""));
        NightfallVillage tie = begun('-', '-', '-');
        tie.dawn();
        Villages.vote(tie, "" + a + b, "" + b + a);
        is("as many", tie.dusk(), -1);
        tie.dawn();
        Villages.vote(tie, "" + a + b, "" + b + a, "" + c + a);
        is("more", tie.dusk(), a);
    }

    private void ghosts() {
        NightfallVillage village = begun('-', '-', 'k');
        village.act(c, a);
        village.dawn();
        is("a ghost has a vote", village.hasGhostVote(a), true);
        is("and uses it", village.vote(a, c), false);
        is("on that day", village.hasGhostVote(a), true);
        is("again", village.vote(a, b), true);
        village.vote(c, c);
        is("as many", village.dusk(), -1);
        is("it is gone", village.hasGhostVote(a), false);
        village.dawn();
        is("on the next day too", village.hasGhostVote(a), false);
        is("and not used", Checks.answer(() -> village.vote(a, b)), UNSUPPORTED);
        NightfallVillage later = begun('-', '-', 'k');
        later.act(c, a);
        Villages.day(later);
        later.dawn();
        is("a ghost that waits", later.vote(a, b), false);
        is("exiles alone", later.dusk(), b);
    }

    private void claims() {
        NightfallVillage village = begun('-', '-', '-');
        is("claims", village.claim(a, b, 'v'), 0);
        is("one who lies", village.liars(b), 1);
        is("for itself open", village.liars(a), 0);
        is("false for it", village.holds(b, 0), 'f');
        is("open for others", village.holds(c, 0), '?');
        is("claims of the other side", village.claim(b, a, 'v'), 1);
        is("true for it", village.holds(a, 1), 't');
        is("still one", village.liars(b), 1);
    }

    private void changes() {
        NightfallVillage village = begun('k', 'k', '-');
        village.act(a, c);
        village.dawn();
        int others = 127 & ~(1 << c);
        is("both have the act", village.alive(a, b), others);
        is("in either order", village.alive(b, a), others);
        is("the one killed dies in another role too", village.alive(b, c), others);
        is("no act for the first", village.alive(a, c), 127);
        village.vote(c, b);
        is("the wolf", village.dusk(), b);
        is("the village wins", village.winner(), 'v');
        is("it would be the other wolf", village.changed(a, b), '-');
    }
}
