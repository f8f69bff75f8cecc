/** Promises 14 to 19 and 24 to 25: votes, weights, ghosts, and where the game stands. */
public final class DaysTest {
    private static final Class<?> INDEX = IndexOutOfBoundsException.class;
    private static final Class<?> STATE = IllegalStateException.class;
    private static final Class<?> UNSUPPORTED = UnsupportedOperationException.class;
    private static final Checks CHECKS = new Checks("DaysTest");

    private DaysTest() {
    }

    public static void main(String[] args) {
        promise14();
        promise14Refused();
        promise15();
        promise16();
        promise16Refused();
        promise17And18();
        promise19();
        promise24();
        promise25();
        CHECKS.end();
    }

    /** Seat 0 is a wolf that killed seat 1, seat 2 weighs 2, seats 3 to 5 weigh 1; it is day 0. */
    private static NightfallVillage day() {
        NightfallVillage village = new NightfallVillage();
        village.role('w', 'k', 2, false, false, false);
        village.role('v', '-', 1, false, false, false);
        village.role('v', 'q', 2, false, false, false);
        int[] roles = {0, 2, 2, 1, 1, 1};
        for (int role : roles) {
            village.seat(role);
        }
        village.begin();
        village.act(0, 1);
        village.dawn();
        return village;
    }

    private static void nextDay(NightfallVillage village) {
        village.dusk();
        village.dawn();
    }

    private static void promise14() {
        NightfallVillage village = day();
        CHECKS.is("the first vote", village.vote(3, 2), false);
        CHECKS.is("another one", village.vote(3, 4), true);
        CHECKS.is("for itself", village.vote(4, 4), false);
        CHECKS.is("of a dead one", village.vote(1, 2), false);
        CHECKS.is("of a dead one again", village.vote(1, 4), true);
        CHECKS.is("the last ones count", village.votes(4) * 10 + village.votes(2), 30);
        CHECKS.is("are done", village.dusk(), 4);
        village.dawn();
        CHECKS.is("none on the next day yet", village.vote(3, 2), false);
        CHECKS.is("a vote alive is no ghost's", village.vote(4, 2), false);
        CHECKS.is("a ghost has voted", Checks.answer(() -> village.vote(1, 2)), UNSUPPORTED);
    }

    private static void promise14Refused() {
        CHECKS.refuses("vote of -1", INDEX, DaysTest::day, x -> x.vote(-1, 0));
        CHECKS.refuses("vote of 6", INDEX, DaysTest::day, x -> x.vote(6, 0));
        CHECKS.refuses("vote for -1", INDEX, DaysTest::day, x -> x.vote(0, -1));
        CHECKS.refuses("vote for 6", INDEX, DaysTest::day, x -> x.vote(0, 6));
        CHECKS.refuses("vote ahead of the game", STATE, Villages::exampleDealt, x -> x.vote(0, 1));
        CHECKS.refuses("vote behind the game", STATE, Villages::exampleOver, x -> x.vote(4, 4));
        CHECKS.refuses("vote for 5 ahead of the game", INDEX, Villages::exampleDealt, x -> x.vote(0, 5));
        CHECKS.refuses("vote at night", UNSUPPORTED, Villages::exampleBegun, x -> x.vote(0, 1));
        CHECKS.refuses("vote for a dead one", UNSUPPORTED, DaysTest::day, x -> x.vote(0, 1));
        CHECKS.refuses("vote of a dead one for itself", UNSUPPORTED, DaysTest::day, x -> x.vote(1, 1));
        CHECKS.refuses("vote of a ghost that has voted", UNSUPPORTED, DaysTest::ghostSpent, x -> x.vote(1, 0));
        CHECKS.refuses("vote of a silenced one", UNSUPPORTED, DaysTest::silenced, x -> x.vote(3, 0));
    }

    private static NightfallVillage ghostSpent() {
        NightfallVillage village = day();
        village.vote(1, 3);
        village.vote(3, 2);
        nextDay(village);
        return village;
    }

    private static NightfallVillage silenced() {
        NightfallVillage village = day();
        village.dusk();
        village.act(2, 3);
        village.dawn();
        return village;
    }

    private static void promise15() {
        NightfallVillage village = day();
        CHECKS.is("no votes", village.votes(0), 0);
        Villages.vote(village, "03", "23", "10", "40");
        CHECKS.is("weights of the living", village.votes(3), 4);
        CHECKS.is("a ghost weighs 1 though its role weighs 2", village.votes(0), 2);
        CHECKS.is("for a dead one", village.votes(1), 0);
        village.vote(0, 0);
        CHECKS.is("a vote moved", village.votes(3) * 10 + village.votes(0), 24);
        village.dusk();
        CHECKS.is("no game", Checks.answer(() -> village.votes(2)), STATE);
        NightfallVillage next = ghostSpent();
        CHECKS.is("none from the day before", next.votes(2) + next.votes(3), 0);
        CHECKS.refuses("votes for -1", INDEX, DaysTest::day, x -> x.votes(-1));
        CHECKS.refuses("votes for 6", INDEX, DaysTest::day, x -> x.votes(6));
        CHECKS.refuses("votes for 5 ahead of the game", INDEX, Villages::exampleDealt, x -> x.votes(5));
        CHECKS.refuses("votes ahead of the game", STATE, Villages::exampleDealt, x -> x.votes(0));
        CHECKS.refuses("votes behind the game", STATE, Villages::exampleOver, x -> x.votes(0));
        CHECKS.refuses("votes at night", UNSUPPORTED, Villages::exampleBegun, x -> x.votes(0));
    }

    private static int exiled(String... ballots) {
        NightfallVillage village = day();
        Villages.vote(village, ballots);
        return village.dusk();
    }

    private static void promise16() {
        CHECKS.is("no votes", exiled(), -1);
        CHECKS.is("one vote", exiled("34"), 4);
        CHECKS.is("as many", exiled("34", "43"), -1);
        CHECKS.is("weights", exiled("34", "43", "23"), 3);
        CHECKS.is("a weight against two", exiled("23", "34", "44"), -1);
        CHECKS.is("as many, and more behind", exiled("34", "43", "25"), 5);
        CHECKS.is("as many, and more ahead", exiled("34", "45", "22"), 2);
        CHECKS.is("three as many", exiled("34", "43", "55"), -1);
        CHECKS.is("a ghost too", exiled("34", "43", "14"), 4);
        CHECKS.is("the last one", exiled("34", "43", "42", "42"), -1);
        NightfallVillage village = day();
        Villages.vote(village, "24");
        village.dusk();
        CHECKS.is("the exile dies", village.death(4), 'x');
        CHECKS.is("it is night", village.isNight(), true);
        CHECKS.is("the next one", village.number(), 1);
        NightfallVillage nobody = day();
        nobody.dusk();
        CHECKS.is("nobody dies", Villages.living(nobody, 6), "02345");
        NightfallVillage over = Villages.exampleVoted();
        CHECKS.is("the exile of the example", over.dusk(), 3);
        CHECKS.is("and what it leads to", Villages.deaths(over, 5), "hklx-");
    }

    private static void promise16Refused() {
        CHECKS.refuses("dusk ahead of the game", STATE, Villages::exampleDealt, x -> x.dusk());
        CHECKS.refuses("dusk behind the game", STATE, Villages::exampleOver, x -> x.dusk());
        CHECKS.refuses("dusk at night", UNSUPPORTED, Villages::exampleBegun, x -> x.dusk());
        CHECKS.refuses("dusk in night 1", UNSUPPORTED, () -> {
            NightfallVillage village = day();
            village.dusk();
            return village;
        }, x -> x.dusk());
    }

    private static void promise17And18() {
        NightfallVillage village = Villages.night("K----");
        for (int number = 0; number < 5; number++) {
            CHECKS.is("night", village.isNight(), true);
            CHECKS.is("number of the night", village.number(), number);
            village.dawn();
            CHECKS.is("day", village.isNight(), false);
            CHECKS.is("number of the day", village.number(), number);
            village.dusk();
        }
        CHECKS.refuses("isNight ahead of the game", STATE, Villages::exampleDealt, x -> x.isNight());
        CHECKS.refuses("isNight behind the game", STATE, Villages::exampleOver, x -> x.isNight());
        CHECKS.refuses("number ahead of the game", STATE, Villages::exampleDealt, x -> x.number());
        CHECKS.is("number behind the game", Villages.exampleOver().number(), 0);
        NightfallVillage atDusk = Villages.night("K----");
        Villages.day(atDusk);
        atDusk.dawn();
        atDusk.vote(1, 0);
        atDusk.dusk();
        CHECKS.is("number of the last day", atDusk.number(), 1);
        NightfallVillage atDawn = Villages.night("K--");
        Villages.day(atDawn);
        atDawn.act(0, 1);
        atDawn.dawn();
        CHECKS.is("number of the last night", atDawn.number(), 1);
        CHECKS.is("it is no night then", Checks.answer(atDawn::isNight), STATE);
    }

    private static void promise19() {
        NightfallVillage village = Villages.exampleDealt();
        CHECKS.is("alive ahead of the game", village.isAlive(4), true);
        CHECKS.is("alive", Villages.living(Villages.exampleAtDay(), 5), "0234");
        CHECKS.is("alive behind the game", Villages.living(Villages.exampleOver(), 5), "4");
        CHECKS.refuses("isAlive of -1", INDEX, Villages::exampleAtDay, x -> x.isAlive(-1));
        CHECKS.refuses("isAlive of 5", INDEX, Villages::exampleAtDay, x -> x.isAlive(5));
    }

    private static void promise24() {
        NightfallVillage village = silenced();
        CHECKS.is("the silenced one", village.isSilenced(3), true);
        CHECKS.is("another one", village.isSilenced(4), false);
        CHECKS.is("the one who silences", village.isSilenced(2), false);
        nextDay(village);
        CHECKS.is("not on the next day", village.isSilenced(3), false);
        CHECKS.refuses("isSilenced of -1", INDEX, DaysTest::silenced, x -> x.isSilenced(-1));
        CHECKS.refuses("isSilenced of 6", INDEX, DaysTest::silenced, x -> x.isSilenced(6));
        CHECKS.refuses("isSilenced of 5 ahead of the game", INDEX, Villages::exampleDealt, x -> x.isSilenced(5));
        CHECKS.refuses("isSilenced ahead of the game", STATE, Villages::exampleDealt, x -> x.isSilenced(0));
        CHECKS.refuses("isSilenced behind the game", STATE, Villages::exampleOver, x -> x.isSilenced(0));
        CHECKS.refuses("isSilenced at night", UNSUPPORTED, Villages::exampleBegun, x -> x.isSilenced(0));
    }

    private static void promise25() {
        NightfallVillage village = day();
        CHECKS.is("a new ghost", village.hasGhostVote(1), true);
        village.vote(1, 4);
        CHECKS.is("on the same day", village.hasGhostVote(1), true);
        village.vote(3, 4);
        village.dusk();
        CHECKS.is("in the night behind it", village.hasGhostVote(1), false);
        CHECKS.is("one who voted alive", village.hasGhostVote(4), true);
        village.dawn();
        CHECKS.is("on the next day", village.hasGhostVote(1), false);
        CHECKS.is("behind the game, not used", Villages.exampleOver().hasGhostVote(1), true);
        NightfallVillage over = Villages.exampleVoted();
        over.vote(1, 3);
        over.dusk();
        CHECKS.is("behind the game, used", over.hasGhostVote(1), false);
        CHECKS.refuses("hasGhostVote of -1", INDEX, DaysTest::day, x -> x.hasGhostVote(-1));
        CHECKS.refuses("hasGhostVote of 6", INDEX, DaysTest::day, x -> x.hasGhostVote(6));
        CHECKS.refuses("hasGhostVote of a living one", UNSUPPORTED, DaysTest::day, x -> x.hasGhostVote(0));
        CHECKS.refuses("hasGhostVote ahead of the game", UNSUPPORTED, Villages::exampleDealt, x -> x.hasGhostVote(0));
    }
}
