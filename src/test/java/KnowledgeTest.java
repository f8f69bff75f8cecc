/** Promises 28 to 34: worlds, and what can be known and claimed. */
public final class KnowledgeTest {
    private static final Class<?> INDEX = IndexOutOfBoundsException.class;
    private static final Class<?> ARGUMENT = IllegalArgumentException.class;
    private static final Class<?> STATE = IllegalStateException.class;
    private static final Class<?> UNSUPPORTED = UnsupportedOperationException.class;
    private static final Checks CHECKS = new Checks("KnowledgeTest");

    private KnowledgeTest() {
    }

    public static void main(String[] args) {
        promise28();
        worldsByTheDead();
        worldsByWhatWasTold();
        worldsByDrink();
        worldsOfFools();
        noWorldFits();
        promise28Refused();
        promise29();
        promise30();
        promise31();
        promise32();
        promise32Refused();
        promise33();
        promise34();
        CHECKS.end();
    }

    private static void promise28() {
        CHECKS.is("the example's", Villages.exampleBegun().worlds(1), 48);
        CHECKS.is("one who knows itself alone", Villages.exampleBegun().worlds(0), 24);
        CHECKS.is("all alike", sevenOf(7).worlds(6), 1);
        CHECKS.is("seven roles", Villages.night("-------").worlds(3), 720);
        CHECKS.is("three and four", sevenOf(3).worlds(0), 15);
        CHECKS.is("from the other side", sevenOf(3).worlds(6), 20);
        NightfallVillage alike = Villages.ofActs("-------");
        for (int role = 0; role < 7; role++) {
            alike.seems(role, 3);
        }
        alike.begin();
        CHECKS.is("who may be anything", alike.worlds(5), 5040);
        CHECKS.is("the mean of it", alike.meanWorlds(), 5040.0);
    }

    /** Seven seats, so many of them of role 0, the rest of role 1; begun. */
    private static NightfallVillage sevenOf(int first) {
        NightfallVillage village = new NightfallVillage();
        village.role('w', 'k', 1, false, false, false);
        village.role('v', '-', 1, false, false, false);
        for (int seat = 0; seat < 7; seat++) {
            village.seat(seat < first ? 0 : 1);
        }
        village.begin();
        return village;
    }

    private static void worldsByTheDead() {
        NightfallVillage village = Villages.night("Ks---", "02");
        village.dawn();
        CHECKS.is("the dead are known", village.worlds(1), 6);
        CHECKS.is("to themselves too", village.worlds(2), 24);
        CHECKS.is("as they were", village.possible(1, 2, 2), 6);
        NightfallVillage heir = Villages.ofActs("Ks---");
        heir.heir(3, 2);
        heir.begin();
        heir.act(0, 2);
        heir.dawn();
        CHECKS.is("not if an heir got a role", heir.worlds(1), 24);
        CHECKS.is("itself by the role dealt", heir.possible(3, 3, 3), 24);
        CHECKS.is("not by the one it got", heir.possible(3, 3, 2), 0);
        NightfallVillage none = Villages.ofActs("Ks---");
        none.heir(2, 3);
        none.begin();
        none.act(0, 2);
        none.dawn();
        CHECKS.is("an heir who died got none", none.worlds(1), 6);
        NightfallVillage same = sevenHeirs();
        CHECKS.is("a role that is the same is got", same.known(), 35);
    }

    /** Of three wolves and four villagers a villager dies, and a villager is its heir. */
    private static NightfallVillage sevenHeirs() {
        NightfallVillage village = new NightfallVillage();
        village.role('w', 'k', 1, false, false, false);
        village.role('v', '-', 1, false, false, false);
        for (int seat = 0; seat < 7; seat++) {
            village.seat(seat < 3 ? 0 : 1);
        }
        village.heir(6, 5);
        village.begin();
        village.act(0, 5);
        village.dawn();
        return village;
    }

    private static void worldsByWhatWasTold() {
        NightfallVillage village = Villages.night("Ks---", "10");
        CHECKS.is("ahead of dawn", village.worlds(1), 24);
        village.dawn();
        CHECKS.is("the wolf is seen", village.worlds(1), 6);
        CHECKS.is("by the seer alone", village.worlds(0), 24);
        NightfallVillage other = Villages.night("Ks---", "12");
        other.dawn();
        CHECKS.is("no wolf is seen", other.worlds(1), 18);
        other.dusk();
        other.act(1, 3);
        other.dawn();
        CHECKS.is("another one neither", other.worlds(1), 12);
        NightfallVillage lone = new NightfallVillage();
        lone.role('v', 's', 1, false, false, false);
        lone.role('w', '-', 1, false, false, false);
        lone.role('l', '-', 1, false, false, false);
        lone.role('v', '-', 1, false, false, false);
        for (int seat = 0; seat < 4; seat++) {
            lone.seat(seat);
        }
        lone.begin();
        lone.act(0, 2);
        lone.dawn();
        CHECKS.is("a lone one is seen as v", lone.worlds(0), 4);
        CHECKS.is("and may be one", lone.possible(0, 2, 2), 2);
    }

    private static void worldsByDrink() {
        NightfallVillage village = Villages.night("Ksd--", "10");
        village.dawn();
        CHECKS.is("anybody may have served drink", village.worlds(1), 24);
        NightfallVillage dead = Villages.night("Ksd--", "02");
        Villages.day(dead);
        dead.act(1, 0);
        dead.dawn();
        CHECKS.is("not one dead at the beginning of the night", dead.worlds(1), 2);
        NightfallVillage dying = Villages.night("Ksd--", "02", "10");
        dying.dawn();
        CHECKS.is("but one who died in it", dying.worlds(1), 6);
        NightfallVillage later = Villages.night("Ksd---", "02", "10");
        Villages.day(later);
        later.act(1, 0);
        later.dawn();
        CHECKS.is("two nights, each by those who lived", later.worlds(1), 6);
        NightfallVillage seen = Villages.night("Ksd--", "12");
        seen.dawn();
        CHECKS.is("the one seen may have served", seen.worlds(1), 24);
    }

    private static void worldsOfFools() {
        NightfallVillage village = new NightfallVillage();
        village.role('w', 'k', 1, false, false, false);
        village.role('v', 's', 1, false, false, false);
        village.role('v', 's', 1, false, true, false);
        village.role('v', '-', 1, false, false, false);
        village.role('v', '-', 1, false, false, false);
        village.seems(2, 1);
        for (int seat = 0; seat < 5; seat++) {
            village.seat(seat);
        }
        village.begin();
        Villages.tell(village, "10", "20");
        village.dawn();
        CHECKS.is("a seer who may be a fool", village.worlds(1), 6 + 18);
        CHECKS.is("it is no fool if the wolf is one", village.possible(1, 0, 0), 6);
        CHECKS.is("a fool who may be a seer", village.worlds(2), 6 + 18);
        CHECKS.is("right as a fool", village.possible(2, 2, 2), 6);
        CHECKS.is("wrong as a seer", village.possible(2, 2, 1), 18);
        masksOfOthers();
    }

    /** One who takes itself for a seer may have a role without that act; a drinker serves no drink to itself. */
    private static void masksOfOthers() {
        NightfallVillage village = Villages.ofActs("Ksd-");
        village.seems(3, 1);
        village.seems(2, 1);
        village.begin();
        village.act(1, 0);
        village.dawn();
        CHECKS.is("as a seer, the drinker beside it", village.possible(1, 1, 1), 6);
        CHECKS.is("as one without an act, likewise", village.possible(1, 1, 3), 6);
        CHECKS.is("as the drinker itself, right alone", village.possible(1, 1, 2), 2);
        CHECKS.is("in all", village.worlds(1), 14);
    }

    /** An heir turns wolf, and is seen as one: by the deal two wolves, where one was dealt. */
    private static NightfallVillage noWorld() {
        NightfallVillage village = Villages.ofActs("Ksk----");
        village.heir(3, 0);
        village.begin();
        Villages.tell(village, "10", "20");
        Villages.day(village);
        village.claim(4, 3, 'w');
        village.act(1, 3);
        village.dawn();
        village.claim(5, 0, 'w');
        village.claim(5, 3, 'v');
        return village;
    }

    private static void noWorldFits() {
        NightfallVillage village = noWorld();
        CHECKS.is("two are seen as wolves", village.told(1, 0) + village.told(1, 1), 'w' + 'w');
        CHECKS.is("no world fits", village.worlds(1), 0);
        CHECKS.is("none is possible", village.possible(1, 0, 0), 0);
        CHECKS.is("nothing is sure", village.sure(1, 0), '?');
        CHECKS.is("not even its own side", village.sure(1, 1), '?');
        CHECKS.is("no claim holds", village.holds(1, 0), 'f');
        CHECKS.is("true or not", village.holds(1, 1), 'f');
        CHECKS.is("all who claim are liars", village.liars(1), 2);
        CHECKS.is("for others worlds fit", village.worlds(0), 720);
        CHECKS.is("it is sound all the same", village.isSound(), true);
    }

    private static void promise28Refused() {
        CHECKS.refuses("worlds of -1", INDEX, Villages::exampleAtDay, x -> x.worlds(-1));
        CHECKS.refuses("worlds of 5", INDEX, Villages::exampleAtDay, x -> x.worlds(5));
        CHECKS.refuses("worlds of 5 ahead of the game", INDEX, Villages::exampleDealt, x -> x.worlds(5));
        CHECKS.refuses("worlds ahead of the game", STATE, Villages::exampleDealt, x -> x.worlds(0));
        CHECKS.is("worlds behind the game", Villages.exampleOver().worlds(0), 24);
    }

    private static void promise29() {
        NightfallVillage village = Villages.exampleAtDay();
        CHECKS.is("the example's", village.possible(4, 0, 0), 12);
        int sum = 0;
        for (int role = 0; role < 5; role++) {
            sum += village.possible(4, 1, role);
        }
        CHECKS.is("all roles of one seat are all worlds", sum, village.worlds(4));
        CHECKS.is("of itself", village.possible(0, 0, 0), village.worlds(0));
        CHECKS.is("of itself, another role", village.possible(0, 0, 1), 0);
        NightfallVillage spare = Villages.ofActs("K--");
        spare.role('l', '-', 1, false, false, false);
        spare.begin();
        CHECKS.is("a role never dealt", spare.possible(1, 0, 3), 0);
        CHECKS.refuses("possible for -1", INDEX, Villages::exampleAtDay, x -> x.possible(-1, 0, 0));
        CHECKS.refuses("possible for 5", INDEX, Villages::exampleAtDay, x -> x.possible(5, 0, 0));
        CHECKS.refuses("possible of -1", INDEX, Villages::exampleAtDay, x -> x.possible(0, -1, 0));
        CHECKS.refuses("possible of 5", INDEX, Villages::exampleAtDay, x -> x.possible(0, 5, 0));
        CHECKS.refuses("possible role -1", INDEX, Villages::exampleAtDay, x -> x.possible(0, 1, -1));
        CHECKS.refuses("possible role 5", INDEX, Villages::exampleAtDay, x -> x.possible(0, 1, 5));
        CHECKS.refuses("possible role 5 ahead of the game", INDEX, Villages::exampleDealt, x -> x.possible(0, 1, 5));
        CHECKS.refuses("possible ahead of the game", STATE, Villages::exampleDealt, x -> x.possible(0, 1, 1));
    }

    private static void promise30() {
        NightfallVillage village = Villages.exampleAtDay();
        CHECKS.is("not sure", village.sure(4, 0), '?');
        CHECKS.is("of itself", village.sure(0, 0), 'w');
        CHECKS.is("of a villager, by the wolf", village.sure(0, 3), 'v');
        NightfallVillage seer = Villages.night("Ks---", "10");
        seer.dawn();
        CHECKS.is("the one seen", seer.sure(1, 0), 'w');
        CHECKS.is("so all others", seer.sure(1, 4), 'v');
        CHECKS.is("others do not know", seer.sure(2, 0), '?');
        NightfallVillage lone = new NightfallVillage();
        lone.role('l', 'k', 1, false, false, false);
        lone.role('w', '-', 1, false, false, false);
        lone.role('v', '-', 1, false, false, false);
        lone.role('v', 's', 1, false, false, false);
        for (int seat = 0; seat < 4; seat++) {
            lone.seat(seat);
        }
        lone.begin();
        CHECKS.is("oneself as lone", lone.sure(0, 0), 'l');
        CHECKS.is("v or w", lone.sure(0, 1), '?');
        lone.act(0, 3);
        lone.dawn();
        CHECKS.is("a dead one", lone.sure(1, 3), 'v');
        CHECKS.is("v or l", lone.sure(1, 0), '?');
        lone.vote(1, 2);
        lone.dusk();
        CHECKS.is("what is left", lone.sure(1, 0), 'l');
        CHECKS.refuses("sure for -1", INDEX, Villages::exampleAtDay, x -> x.sure(-1, 0));
        CHECKS.refuses("sure for 5", INDEX, Villages::exampleAtDay, x -> x.sure(5, 0));
        CHECKS.refuses("sure of -1", INDEX, Villages::exampleAtDay, x -> x.sure(0, -1));
        CHECKS.refuses("sure of 5 ahead of the game", INDEX, Villages::exampleDealt, x -> x.sure(0, 5));
        CHECKS.refuses("sure ahead of the game", STATE, Villages::exampleDealt, x -> x.sure(0, 1));
    }

    private static void promise31() {
        CHECKS.is("nobody dead", Villages.exampleBegun().known(), 120);
        CHECKS.is("an heir got a role", Villages.exampleAtDay().known(), 120);
        NightfallVillage village = Villages.night("Ks---", "02", "10");
        village.dawn();
        CHECKS.is("one dead, and what was told is not known", village.known(), 24);
        village.vote(0, 3);
        village.dusk();
        CHECKS.is("two dead", village.known(), 6);
        CHECKS.is("all of seven", Villages.night("-------").known(), 5040);
        CHECKS.is("three of seven", sevenOf(3).known(), 35);
        CHECKS.refuses("known ahead of the game", STATE, Villages::exampleDealt, x -> x.known());
    }

    private static void promise32() {
        NightfallVillage village = Villages.exampleBegun();
        CHECKS.is("the first claim", village.claim(4, 0, 'w'), 0);
        CHECKS.is("at night", village.claim(3, 1, 'v'), 1);
        village.act(0, 1);
        village.dawn();
        CHECKS.is("by a dead one", village.claim(1, 0, 'l'), 2);
        CHECKS.is("of a dead one", village.claim(0, 1, 'v'), 3);
        for (int claim = 4; claim < 30; claim++) {
            CHECKS.is("claim " + claim, village.claim(4, 0, 'w'), claim);
        }
        CHECKS.is("one claim too many", Checks.answer(() -> village.claim(4, 0, 'w')), UNSUPPORTED);
        CHECKS.is("a wrong one too many", Checks.answer(() -> village.claim(4, 0, 'x')), ARGUMENT);
        CHECKS.is("there are 30", Checks.answer(() -> village.holds(0, 30)), INDEX);
        village.vote(2, 0);
        village.dusk();
        CHECKS.is("30, and the game is over", Checks.answer(() -> village.claim(4, 0, 'w')), STATE);
        CHECKS.is("claims stay", village.holds(0, 29), 't');
    }

    private static void promise32Refused() {
        CHECKS.refuses("claim by -1", INDEX, Villages::exampleAtDay, x -> x.claim(-1, 0, 'v'));
        CHECKS.refuses("claim by 5", INDEX, Villages::exampleAtDay, x -> x.claim(5, 0, 'v'));
        CHECKS.refuses("claim of -1", INDEX, Villages::exampleAtDay, x -> x.claim(0, -1, 'v'));
        CHECKS.refuses("claim of 5", INDEX, Villages::exampleAtDay, x -> x.claim(0, 5, 'x'));
        CHECKS.refuses("claim of itself", ARGUMENT, Villages::exampleAtDay, x -> x.claim(2, 2, 'v'));
        for (char side : new char[] {'*', '-', 'n', 'W', 0}) {
            CHECKS.refuses("claim of " + (int) side, ARGUMENT, Villages::exampleAtDay, x -> x.claim(0, 1, side));
        }
        CHECKS.refuses("claim ahead of the game", STATE, Villages::exampleDealt, x -> x.claim(0, 1, 'v'));
        CHECKS.refuses("claim of itself ahead of the game", ARGUMENT, Villages::exampleDealt, x -> x.claim(1, 1, 'v'));
        CHECKS.refuses("claim of 5 ahead of the game", INDEX, Villages::exampleDealt, x -> x.claim(1, 5, 'v'));
        CHECKS.refuses("claim behind the game", STATE, Villages::exampleOver, x -> x.claim(4, 0, 'v'));
    }

    /** Seat 1 has seen that seat 0 is a wolf; there are claims about it and others. */
    private static NightfallVillage claimed() {
        NightfallVillage village = Villages.night("Ks---", "10");
        village.dawn();
        village.claim(2, 0, 'w');
        village.claim(2, 0, 'v');
        village.claim(3, 0, 'l');
        village.claim(4, 3, 'v');
        village.claim(2, 3, 'w');
        return village;
    }

    private static void promise33() {
        NightfallVillage village = claimed();
        CHECKS.is("true for the seer", village.holds(1, 0), 't');
        CHECKS.is("false for the seer", village.holds(1, 1), 'f');
        CHECKS.is("of no side there is", village.holds(1, 2), 'f');
        CHECKS.is("true of another one", village.holds(1, 3), 't');
        CHECKS.is("open for others", village.holds(2, 0), '?');
        CHECKS.is("open the other way", village.holds(2, 1), '?');
        CHECKS.is("false for all", village.holds(2, 2), 'f');
        CHECKS.is("of oneself", village.holds(0, 1), 'f');
        CHECKS.refuses("holds for -1", INDEX, KnowledgeTest::claimed, x -> x.holds(-1, 0));
        CHECKS.refuses("holds for 5", INDEX, KnowledgeTest::claimed, x -> x.holds(5, 0));
        CHECKS.refuses("claim -1", INDEX, KnowledgeTest::claimed, x -> x.holds(0, -1));
        CHECKS.refuses("claim 5", INDEX, KnowledgeTest::claimed, x -> x.holds(0, 5));
        CHECKS.refuses("no claim ahead of the game", INDEX, Villages::exampleDealt, x -> x.holds(0, 0));
    }

    private static void promise34() {
        NightfallVillage village = claimed();
        CHECKS.is("for the seer", village.liars(1), 2);
        CHECKS.is("for one who knows nothing", village.liars(2), 1);
        CHECKS.is("for the wolf", village.liars(0), 2);
        CHECKS.is("for itself", village.liars(3), 2);
        CHECKS.is("without claims", Villages.exampleAtDay().liars(0), 0);
        CHECKS.is("ahead of the game", Villages.exampleDealt().liars(0), 0);
        CHECKS.refuses("liars for -1", INDEX, KnowledgeTest::claimed, x -> x.liars(-1));
        CHECKS.refuses("liars for 5", INDEX, KnowledgeTest::claimed, x -> x.liars(5));
        CHECKS.refuses("liars without seats", INDEX, NightfallVillage::new, x -> x.liars(0));
    }
}
