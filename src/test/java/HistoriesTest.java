/** Promises 35 and 36: the history with the roles of two seats changed. */
public final class HistoriesTest {
    private static final Class<?> INDEX = IndexOutOfBoundsException.class;
    private static final Class<?> ARGUMENT = IllegalArgumentException.class;
    private static final Class<?> STATE = IllegalStateException.class;
    private static final Class<?> UNSUPPORTED = UnsupportedOperationException.class;
    private static final Checks CHECKS = new Checks("HistoriesTest");

    private HistoriesTest() {
    }

    public static void main(String[] args) {
        example();
        sameRoles();
        whatMayNotBeToldIsLeftOut();
        votesLeftOut();
        ghostVotesLeftOut();
        replacedTargetsCount();
        onceAndVotes();
        ghosts();
        marks();
        marksInTheirOrder();
        noDuskBehindTheEnd();
        whatWasRefusedIsNoHistory();
        seatsKeepTheirTies();
        goesOnAsLongAsItIsNotOver();
        leavesTheGameAsItIs();
        refused();
        CHECKS.end();
    }

    private static void example() {
        NightfallVillage village = Villages.exampleOver();
        CHECKS.is("changed(0, 1)", village.changed(0, 1), 'w');
        CHECKS.is("alive(0, 1)", village.alive(0, 1), 18);
        CHECKS.is("changed(1, 0)", village.changed(1, 0), 'w');
        CHECKS.is("in the first night", Villages.exampleBegun().changed(0, 1), '-');
        CHECKS.is("all live then", Villages.exampleBegun().alive(0, 1), 31);
    }

    private static void sameRoles() {
        NightfallVillage village = new NightfallVillage();
        village.role('w', 'k', 1, false, false, false);
        village.role('v', '-', 1, false, false, false);
        village.seat(0);
        village.seat(1);
        village.seat(1);
        village.seat(1);
        village.begin();
        village.act(0, 1);
        village.dawn();
        CHECKS.is("two of one role", village.alive(1, 2), 13);
        CHECKS.is("the wolf and a villager", village.alive(0, 1), 15);
        village.vote(2, 0);
        village.dusk();
        CHECKS.is("they win", village.winner(), 'v');
        CHECKS.is("two of one role again", village.changed(1, 2), 'v');
        CHECKS.is("the wolf would live on", village.changed(0, 3), '-');
        CHECKS.is("and others too", village.alive(0, 3), 14);
    }

    private static void whatMayNotBeToldIsLeftOut() {
        NightfallVillage village = Villages.night("Kk-----", "01", "12");
        Villages.day(village);
        Villages.tell(village, "03");
        village.dawn();
        CHECKS.is("as it is", Villages.living(village, 7), "0456");
        CHECKS.is("an act without one is left out", village.alive(0, 4), 0b1111011);
        CHECKS.is("one who would be dead does nothing", village.alive(1, 4), 0b1110101);
        CHECKS.is("the wolf would die in the first night", village.alive(0, 1), 0b1111001);
        NightfallVillage silent = Villages.night("Kq-----", "12");
        silent.dawn();
        silent.vote(3, 0);
        silent.vote(4, 0);
        silent.vote(5, 6);
        CHECKS.is("an act is that of another role", silent.alive(1, 0), 0b1111011);
        silent.dusk();
        CHECKS.is("the wolf is exiled", silent.winner(), 'v');
        CHECKS.is("another one in its place", silent.alive(0, 6), 126);
        CHECKS.is("the game goes on", silent.changed(0, 6), '-');
    }

    private static void votesLeftOut() {
        NightfallVillage dead = Villages.night("Kp-----", "02", "12");
        dead.dawn();
        Villages.vote(dead, "32", "42", "53");
        dead.dusk();
        CHECKS.is("as it is", Villages.living(dead, 7), "013456");
        CHECKS.is("votes for one who would be dead", dead.alive(1, 6), 0b1110011);
        NightfallVillage silenced = Villages.night("Kbq----", "12", "23");
        silenced.dawn();
        silenced.vote(3, 4);
        silenced.dusk();
        CHECKS.is("exiled by one vote", Villages.living(silenced, 7), "012356");
        CHECKS.is("a vote of one who would be silenced", silenced.alive(1, 6), 127);
    }

    private static void ghostVotesLeftOut() {
        NightfallVillage village = Villages.night("Kp-----", "02", "12");
        village.dawn();
        village.vote(2, 3);
        village.dusk();
        village.act(0, 2);
        village.dawn();
        village.vote(2, 4);
        village.dusk();
        CHECKS.is("alive on one day, a ghost on the next", Villages.living(village, 7), "0156");
        CHECKS.is("a ghost on both", village.alive(1, 5), 0b1110011);
    }

    /** A target told later may be dead in the other history: then the one told earlier counts. */
    private static void replacedTargetsCount() {
        NightfallVillage village = Villages.night("Kp-----", "02", "12");
        Villages.day(village);
        Villages.tell(village, "03", "02");
        village.dawn();
        CHECKS.is("the last one dies", Villages.living(village, 7), "013456");
        CHECKS.is("the first one would", village.alive(1, 6), 0b1110011);
    }

    private static void onceAndVotes() {
        NightfallVillage village = new NightfallVillage();
        village.role('w', '-', 1, false, false, false);
        village.role('v', 'k', 1, true, false, false);
        village.role('v', 'k', 2, false, false, false);
        int[] roles = {0, 2, 1, 1, 1, 1, 1};
        for (int role : roles) {
            village.seat(role);
        }
        village.begin();
        village.act(1, 3);
        Villages.day(village);
        village.act(1, 4);
        village.dawn();
        Villages.vote(village, "15", "06");
        village.dusk();
        CHECKS.is("as it is", Villages.deaths(village, 7), "---kkx-");
        CHECKS.is("used up, and with another weight", village.alive(1, 2), 0b1110111);
    }

    private static void ghosts() {
        NightfallVillage village = Villages.night("K-k----", "01");
        village.dawn();
        Villages.vote(village, "13");
        village.dusk();
        village.dawn();
        CHECKS.is("as it is", Villages.living(village, 7), "02456");
        CHECKS.is("alive it votes as well", village.alive(0, 3), 0b1110111);
        Villages.vote(village, "34");
        village.dusk();
        CHECKS.is("a ghost on one day", Villages.living(village, 7), "0256");
        CHECKS.is("as one alive", village.alive(0, 6), 0b1100111);
        NightfallVillage twice = Villages.night("Kk-----", "12");
        twice.dawn();
        Villages.vote(twice, "03");
        Villages.vote(twice, "23");
        twice.dusk();
        twice.act(0, 4);
        twice.dawn();
        Villages.vote(twice, "45");
        twice.dusk();
        CHECKS.is("as it was", Villages.living(twice, 7), "016");
        CHECKS.is("a ghost in one history alone", twice.alive(1, 6), 0b1000111);
    }

    private static void marks() {
        NightfallVillage village = new NightfallVillage();
        village.role('w', 'k', 1, false, false, false);
        village.role('v', '-', 1, false, false, false);
        village.role('v', '-', 1, false, false, true);
        int[] roles = {0, 2, 1, 1, 1, 1, 1};
        for (int role : roles) {
            village.seat(role);
        }
        village.mark(1, 2);
        village.mark(3, 4);
        village.begin();
        village.act(0, 2);
        village.dawn();
        village.mark(1, 5);
        village.mark(3, 6);
        village.dusk();
        village.act(0, 1);
        village.dawn();
        CHECKS.is("by the last mark", Villages.deaths(village, 7), "-kk--h-");
        CHECKS.is("the hunter elsewhere does not die", village.alive(1, 4), 0b1111001);
        CHECKS.is("marks stay with the seats", village.alive(0, 1), 127);
        village.vote(0, 3);
        village.dusk();
        CHECKS.is("a mark told in the game", village.alive(1, 3), 0b0110001);
        CHECKS.is("no mark of the hunter there", village.alive(1, 2), 0b1110001);
    }

    private static NightfallVillage withHunter(char actOfFirst) {
        NightfallVillage village = new NightfallVillage();
        village.role('w', 'k', 1, false, false, false);
        village.role('v', actOfFirst, 1, false, false, false);
        village.role('v', '-', 1, false, false, true);
        village.role('v', '-', 1, false, false, false);
        int[] roles = {0, 1, 2, 3, 3, 3, 3};
        for (int role : roles) {
            village.seat(role);
        }
        return village;
    }

    private static void marksInTheirOrder() {
        NightfallVillage ahead = withHunter('-');
        ahead.mark(1, 5);
        ahead.mark(2, 4);
        ahead.begin();
        ahead.act(0, 2);
        Villages.day(ahead);
        ahead.act(0, 1);
        ahead.dawn();
        CHECKS.is("the hunter dies first", Villages.deaths(ahead, 7), "-kk-h--");
        CHECKS.is("second, with the mark of its seat", ahead.alive(1, 2), 0b1011001);
        NightfallVillage late = withHunter('p');
        late.begin();
        Villages.tell(late, "02", "12");
        late.dawn();
        late.mark(2, 5);
        CHECKS.is("the hunter lives", late.living('*'), 7);
        CHECKS.is("killed ahead of the mark it marks nobody", late.alive(1, 6), 0b1111011);
    }

    /** In the other history a wolf of weight 2 and its lover are exiled: the votes for them would weigh less now. */
    private static void noDuskBehindTheEnd() {
        NightfallVillage village = new NightfallVillage();
        village.role('w', '-', 2, false, false, false);
        village.role('v', '-', 2, false, false, false);
        village.role('v', '-', 1, false, false, false);
        int[] roles = {1, 1, 0, 2, 2, 2, 2};
        for (int role : roles) {
            village.seat(role);
        }
        village.lovers(0, 1);
        village.begin();
        village.dawn();
        Villages.vote(village, "00", "10", "36", "46", "56");
        CHECKS.is("exiled by four against three", village.dusk(), 0);
        Villages.day(village);
        CHECKS.is("it goes on", village.number(), 2);
        CHECKS.is("it would be over at day 0", village.changed(0, 2), 'v');
        CHECKS.is("and nobody exiled at day 1", village.alive(0, 2), 0b1111100);
    }

    /** A call that throws changes nothing: also not where it might be told in another history. */
    private static void whatWasRefusedIsNoHistory() {
        NightfallVillage act = Villages.night("K-k----");
        CHECKS.is("no act", Checks.answer(() -> act.act(1, 5)), UNSUPPORTED);
        act.dawn();
        CHECKS.is("with an act it was not told either", act.alive(1, 2), 127);
        NightfallVillage vote = Villages.night("Kq-----", "13");
        vote.dawn();
        CHECKS.is("silenced", Checks.answer(() -> vote.vote(3, 5)), UNSUPPORTED);
        vote.dusk();
        CHECKS.is("not silenced it did not vote either", vote.alive(1, 6), 127);
        NightfallVillage mark = new NightfallVillage();
        mark.role('w', 'k', 1, false, false, false);
        mark.role('v', '-', 1, false, false, true);
        mark.role('v', '-', 1, false, false, false);
        int[] roles = {0, 2, 1, 1, 2, 2, 2};
        for (int role : roles) {
            mark.seat(role);
        }
        mark.mark(3, 2);
        mark.begin();
        mark.act(0, 2);
        mark.dawn();
        CHECKS.is("dead", Checks.answer(() -> mark.mark(2, 5)), UNSUPPORTED);
        mark.vote(4, 3);
        mark.dusk();
        CHECKS.is("alive it marked nobody either", mark.alive(0, 6), 0b1110011);
    }

    private static void seatsKeepTheirTies() {
        NightfallVillage village = Villages.ofActs("Ks----");
        village.lovers(2, 3);
        village.heir(4, 2);
        village.begin();
        village.act(0, 2);
        village.dawn();
        CHECKS.is("lovers are seats", village.alive(2, 5), 0b110011);
        CHECKS.is("the game is as it was", village.roleOf(4), 2);
        NightfallVillage heir = Villages.ofActs("K-----");
        heir.heir(1, 2);
        heir.begin();
        heir.act(0, 2);
        heir.dawn();
        heir.vote(1, 0);
        heir.dusk();
        CHECKS.is("the village has won", heir.winner(), 'v');
        CHECKS.is("by an heir of the wolf it would not", heir.changed(0, 2), '-');
    }

    private static void goesOnAsLongAsItIsNotOver() {
        NightfallVillage village = Villages.night("K----", "01");
        village.dawn();
        village.vote(2, 0);
        village.vote(3, 0);
        village.dusk();
        CHECKS.is("over at day 0", village.winner(), 'v');
        CHECKS.is("it would go on", village.changed(0, 4), '-');
        NightfallVillage early = Villages.night("Kk---", "10");
        CHECKS.is("ahead of dawn", early.changed(0, 2), '-');
        early.dawn();
        CHECKS.is("over at dawn", early.winner(), 'v');
        NightfallVillage late = Villages.night("K-k--", "01", "23");
        Villages.day(late);
        late.act(0, 4);
        late.dawn();
        CHECKS.is("it is w by now", late.winner(), 'w');
        CHECKS.is("it would be over sooner", late.alive(0, 3), 0b10111);
        CHECKS.is("by the village", late.changed(0, 3), 'v');
    }

    private static void leavesTheGameAsItIs() {
        NightfallVillage village = Villages.exampleVoted();
        String before = Snapshot.of(village);
        village.changed(0, 3);
        village.alive(2, 4);
        CHECKS.is("changed and alive change nothing", Snapshot.of(village), before);
        village.dusk();
        CHECKS.is("the game goes on as it would", Villages.deaths(village, 5), "hklx-");
    }

    private static void refused() {
        for (int other : new int[] {-1, 5, Integer.MAX_VALUE, Integer.MIN_VALUE}) {
            CHECKS.refuses("changed of " + other, INDEX, Villages::exampleAtDay, x -> x.changed(other, 0));
            CHECKS.refuses("changed with " + other, INDEX, Villages::exampleAtDay, x -> x.changed(0, other));
            CHECKS.refuses("alive of " + other, INDEX, Villages::exampleAtDay, x -> x.alive(other, 0));
            CHECKS.refuses("alive with " + other, INDEX, Villages::exampleAtDay, x -> x.alive(0, other));
        }
        CHECKS.refuses("changed of the same", ARGUMENT, Villages::exampleAtDay, x -> x.changed(2, 2));
        CHECKS.refuses("alive of the same", ARGUMENT, Villages::exampleAtDay, x -> x.alive(2, 2));
        CHECKS.refuses("changed of the same ahead of the game", ARGUMENT, Villages::exampleDealt, x -> x.changed(2, 2));
        CHECKS.refuses("alive of the same ahead of the game", ARGUMENT, Villages::exampleDealt, x -> x.alive(2, 2));
        CHECKS.refuses("changed of 5 ahead of the game", INDEX, Villages::exampleDealt, x -> x.changed(5, 5));
        CHECKS.refuses("alive of 5 ahead of the game", INDEX, Villages::exampleDealt, x -> x.alive(5, 5));
        CHECKS.refuses("changed ahead of the game", STATE, Villages::exampleDealt, x -> x.changed(0, 1));
        CHECKS.refuses("alive ahead of the game", STATE, Villages::exampleDealt, x -> x.alive(0, 1));
    }
}
