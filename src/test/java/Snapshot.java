/**
 * What a village answers, in texts. All that can be asked is more than the 512 calls that an object is used for, so
 * it comes in parts, each for a village of its own; a part has at most 400 calls.
 */
final class Snapshot {
    /** Seats and figures, possible roles, what is known, what was told ahead of the game, how the game goes on. */
    static final int PARTS = 5;

    private static final int SEATS = 7;
    private static final int ROLES = 8;
    private static final int CLAIMS = 30;
    private static final int NIGHTS = 3;

    private final NightfallVillage village;
    private final StringBuilder text = new StringBuilder();

    private Snapshot(NightfallVillage village) {
        this.village = village;
    }

    /** Some of all questions, and none that changes anything. */
    static String of(NightfallVillage village) {
        Snapshot snapshot = new Snapshot(village);
        snapshot.seatsAndFigures();
        snapshot.otherHistories();
        return snapshot.text.toString();
    }

    /** The last two parts change the village. */
    static String part(NightfallVillage village, int part) {
        Snapshot snapshot = new Snapshot(village);
        switch (part) {
            case 0 -> {
                snapshot.seatsAndFigures();
                snapshot.otherHistories();
            }
            case 1 -> snapshot.possibleRoles();
            case 2 -> snapshot.knowledge();
            case 3 -> snapshot.tellAgain();
            default -> snapshot.goOn();
        }
        return snapshot.text.toString();
    }

    private void put(String what, Checks.Call call) {
        text.append(what).append(' ').append(Checks.answer(call)).append('\n');
    }

    private void seatsAndFigures() {
        put("winner", village::winner);
        put("number", village::number);
        put("isNight", village::isNight);
        put("known", village::known);
        put("checksum", village::checksum);
        put("share", village::livingShare);
        put("mean", village::meanWorlds);
        put("sound", village::isSound);
        for (char side : "vwl*".toCharArray()) {
            put("living", () -> village.living(side));
        }
        for (int each = 0; each < ROLES; each++) {
            int role = each;
            put("dealt", () -> village.dealt(role));
        }
        for (int each = 0; each < SEATS; each++) {
            seat(each);
        }
    }

    private void seat(int seat) {
        put("isAlive", () -> village.isAlive(seat));
        put("death", () -> village.death(seat));
        put("roleOf", () -> village.roleOf(seat));
        put("didAct", () -> village.didAct(seat));
        put("votes", () -> village.votes(seat));
        put("silenced", () -> village.isSilenced(seat));
        put("ghost", () -> village.hasGhostVote(seat));
        put("score", () -> village.score(seat));
        put("worlds", () -> village.worlds(seat));
        put("liars", () -> village.liars(seat));
        for (int each = 0; each < NIGHTS; each++) {
            int night = each;
            put("told", () -> village.told(seat, night));
            put("seen", () -> village.seen(seat, night));
        }
    }

    private void otherHistories() {
        for (int each = 0; each < SEATS; each++) {
            int seat = each;
            for (int second = seat + 1; second < SEATS; second++) {
                int other = second;
                put("changed", () -> village.changed(seat, other));
                put("alive", () -> village.alive(seat, other));
            }
        }
    }

    private void possibleRoles() {
        for (int each = 0; each < SEATS * SEATS * ROLES; each++) {
            int seat = each / ROLES / SEATS;
            int other = each / ROLES % SEATS;
            int role = each % ROLES;
            put("possible", () -> village.possible(seat, other, role));
        }
    }

    private void knowledge() {
        for (int each = 0; each < SEATS * SEATS; each++) {
            int seat = each / SEATS;
            int other = each % SEATS;
            put("sure", () -> village.sure(seat, other));
        }
        for (int each = 0; each < SEATS * CLAIMS; each++) {
            int seat = each / CLAIMS;
            int claim = each % CLAIMS;
            put("holds", () -> village.holds(seat, claim));
        }
    }

    /** What these calls answer is what was told before. */
    private void tellAgain() {
        for (int each = 0; each < ROLES; each++) {
            int role = each;
            put("seems", () -> village.seems(role, role));
        }
        put("lovers", () -> village.lovers(0, 1));
        for (int each = 0; each < SEATS; each++) {
            int seat = each;
            int other = seat == 0 ? 1 : 0;
            put("mark", () -> village.mark(seat, other));
            put("heir", () -> village.heir(seat, other));
            put("act", () -> village.act(seat, other));
            put("vote", () -> village.vote(seat, other));
        }
        put("claim", () -> village.claim(0, 1, 'v'));
        put("role", () -> village.role('v', '-', 1, false, false, false));
        put("seat", () -> village.seat(0));
        put("begin", village::begin);
        seatsAndFigures();
    }

    /** Two nights and days more, in which all act and vote; the first night brings what was told before it. */
    private void goOn() {
        put("begin", village::begin);
        put("dawn", village::dawn);
        put("dusk", village::dusk);
        for (int step = 1; step <= 2; step++) {
            for (int each = 0; each < SEATS; each++) {
                int seat = each;
                int other = (seat + step) % SEATS;
                put("act", () -> village.act(seat, other));
            }
            put("dawn", village::dawn);
            for (int each = 0; each < SEATS; each++) {
                int seat = each;
                put("vote", () -> village.vote(seat, (seat + 3) % SEATS));
            }
            put("dusk", village::dusk);
        }
        seatsAndFigures();
    }
}
