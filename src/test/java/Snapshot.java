/** What a village answers to questions that change nothing, in one text; some 300 calls at most. */
final class Snapshot {
    private Snapshot() {
    }

    static String of(NightfallVillage village) {
        StringBuilder text = new StringBuilder();
        put(text, "winner", village::winner);
        put(text, "number", village::number);
        put(text, "isNight", village::isNight);
        put(text, "known", village::known);
        put(text, "checksum", village::checksum);
        put(text, "share", village::livingShare);
        put(text, "mean", village::meanWorlds);
        put(text, "sound", village::isSound);
        put(text, "living", () -> village.living('*'));
        for (int each = 0; each < 8; each++) {
            int one = each;
            put(text, "dealt", () -> village.dealt(one));
        }
        for (int each = 0; each < 7; each++) {
            int seat = each;
            put(text, "isAlive", () -> village.isAlive(seat));
            put(text, "death", () -> village.death(seat));
            put(text, "roleOf", () -> village.roleOf(seat));
            put(text, "didAct", () -> village.didAct(seat));
            put(text, "told", () -> village.told(seat, 0));
            put(text, "seen", () -> village.seen(seat, 0));
            put(text, "votes", () -> village.votes(seat));
            put(text, "silenced", () -> village.isSilenced(seat));
            put(text, "ghost", () -> village.hasGhostVote(seat));
            put(text, "score", () -> village.score(seat));
            put(text, "worlds", () -> village.worlds(seat));
            put(text, "liars", () -> village.liars(seat));
            put(text, "holds", () -> village.holds(seat, 0));
            for (int other = seat + 1; other < 7; other++) {
                int second = other;
                put(text, "sure", () -> village.sure(seat, second));
                put(text, "changed", () -> village.changed(seat, second));
                put(text, "alive", () -> village.alive(seat, second));
            }
        }
        return text.toString();
    }

    private static void put(StringBuilder text, String what, Checks.Call call) {
        text.append(what).append(' ').append(Checks.answer(call)).append('\n');
    }
}
