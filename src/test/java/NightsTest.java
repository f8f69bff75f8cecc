/** Promises 9 to 13, and what the nights, blocks, turned acts, drink and deaths are. */
public final class NightsTest {
    private static final Class<?> INDEX = IndexOutOfBoundsException.class;
    private static final Class<?> STATE = IllegalStateException.class;
    private static final Class<?> UNSUPPORTED = UnsupportedOperationException.class;
    private static final Class<?> NO_ELEMENT = java.util.NoSuchElementException.class;
    private static final Checks CHECKS = new Checks("NightsTest");

    private NightsTest() {
    }

    public static void main(String[] args) {
        promise9();
        promise9Refused();
        actsOnce();
        promise10();
        blocks();
        blocksInRings();
        blocksOfOneNight();
        turning();
        drink();
        protecting();
        seeing();
        silence();
        killing();
        deathsFollow();
        heirs();
        promise11();
        promise12And13();
        CHECKS.end();
    }

    private static void promise9() {
        NightfallVillage village = Villages.night("Ks--");
        CHECKS.is("the first target", village.act(0, 1), false);
        CHECKS.is("another target", village.act(0, 2), true);
        CHECKS.is("the same target", village.act(0, 3), true);
        CHECKS.is("another seat", village.act(1, 0), false);
        village.dawn();
        CHECKS.is("the last one counts", Villages.living(village, 4), "012");
        village.dusk();
        CHECKS.is("the next night begins anew", village.act(0, 1), false);
        village.dawn();
        CHECKS.is("one more dies", Villages.living(village, 4), "02");
        NightfallVillage forgotten = Villages.night("K----", "01");
        Villages.day(forgotten);
        CHECKS.is("targets of a night before are gone", forgotten.dawn(), 0);
    }

    private static void promise9Refused() {
        CHECKS.refuses("act by -1", INDEX, Villages::exampleBegun, x -> x.act(-1, 0));
        CHECKS.refuses("act by 5", INDEX, Villages::exampleBegun, x -> x.act(5, 0));
        CHECKS.refuses("act on 5", INDEX, Villages::exampleBegun, x -> x.act(0, 5));
        CHECKS.refuses("act ahead of the game", STATE, Villages::exampleDealt, x -> x.act(0, 1));
        CHECKS.refuses("act on itself ahead of the game", STATE, Villages::exampleDealt, x -> x.act(0, 0));
        CHECKS.refuses("act on 5 ahead of the game", INDEX, Villages::exampleDealt, x -> x.act(0, 5));
        CHECKS.refuses("act behind the game", STATE, Villages::exampleOver, x -> x.act(4, 1));
        CHECKS.refuses("act at day", UNSUPPORTED, Villages::exampleAtDay, x -> x.act(0, 2));
        CHECKS.refuses("act on itself", UNSUPPORTED, Villages::exampleBegun, x -> x.act(0, 0));
        CHECKS.refuses("act without an act", UNSUPPORTED, Villages::exampleBegun, x -> x.act(3, 0));
        CHECKS.refuses("act of a dead one", UNSUPPORTED, NightsTest::secondNight, x -> x.act(1, 0));
        CHECKS.refuses("act on a dead one", UNSUPPORTED, NightsTest::secondNight, x -> x.act(0, 1));
    }

    private static NightfallVillage secondNight() {
        NightfallVillage village = Villages.night("Ks---", "01");
        Villages.day(village);
        return village;
    }

    /** Seat 1 blocks, or not, what seat 2 does once; seat 0 keeps the game going. */
    private static NightfallVillage once(char act, String... targets) {
        NightfallVillage village = new NightfallVillage();
        village.role('w', '-', 1, false, false, false);
        village.role('v', 'b', 1, false, false, false);
        village.role('v', act, 1, true, false, false);
        village.role('v', 'd', 1, false, false, false);
        for (int seat = 0; seat < 7; seat++) {
            village.seat(seat < 4 ? seat : 2);
        }
        village.begin();
        Villages.tell(village, targets);
        return village;
    }

    private static void actsOnce() {
        NightfallVillage village = once('p', "23", "24");
        CHECKS.is("the act told again in the same night", village.act(2, 1), true);
        Villages.day(village);
        CHECKS.is("an act once is used up", Checks.answer(() -> village.act(2, 1)), UNSUPPORTED);
        CHECKS.is("that of another seat is not", village.act(4, 1), false);
        NightfallVillage blocked = once('p', "12", "23");
        Villages.day(blocked);
        CHECKS.is("a blocked one is not used up", blocked.act(2, 1), false);
        NightfallVillage drunk = once('p', "32", "23");
        Villages.day(drunk);
        CHECKS.is("a drunk one is used up", Checks.answer(() -> drunk.act(2, 1)), UNSUPPORTED);
        NightfallVillage ring = once('b', "24", "45", "52");
        Villages.day(ring);
        CHECKS.is("a block that does not hold is used up", Checks.answer(() -> ring.act(4, 1)), UNSUPPORTED);
        NightfallVillage untold = once('p');
        Villages.day(untold);
        CHECKS.is("one not told is not used up", untold.act(2, 1), false);
        NightfallVillage often = Villages.night("Ks---");
        Villages.tell(often, "10");
        Villages.day(often);
        CHECKS.is("other acts never are", often.act(1, 0), false);
    }

    private static void promise10() {
        NightfallVillage village = Villages.night("K----", "01");
        CHECKS.is("one dies", village.dawn(), 1);
        CHECKS.is("it is day", village.isNight(), false);
        CHECKS.is("of the same number", village.number(), 0);
        CHECKS.is("nobody dies", Villages.night("K--").dawn(), 0);
        NightfallVillage many = Villages.ofActs("K-----");
        many.lovers(1, 5);
        many.begin();
        many.act(0, 1);
        CHECKS.is("those who follow count", many.dawn(), 2);
        CHECKS.refuses("dawn ahead of the game", STATE, Villages::exampleDealt, x -> x.dawn());
        CHECKS.refuses("dawn behind the game", STATE, Villages::exampleOver, x -> x.dawn());
        CHECKS.refuses("dawn at day", UNSUPPORTED, Villages::exampleAtDay, x -> x.dawn());
    }

    private static String doneAtDawn(String acts, String... targets) {
        NightfallVillage village = Villages.night(acts, targets);
        village.dawn();
        return Villages.done(village, acts.length());
    }

    private static void blocks() {
        CHECKS.is("a block holds", doneAtDawn("bs-K", "01", "13"), "1000");
        CHECKS.is("a block blocked does not", doneAtDawn("bbsK", "01", "12", "23"), "1010");
        CHECKS.is("a chain of three", doneAtDawn("bbbsK", "01", "12", "23", "34"), "10100");
        CHECKS.is("a chain told from behind", doneAtDawn("sbbbK", "04", "10", "21", "32"), "01010");
        CHECKS.is("two block one", doneAtDawn("bbbsK", "02", "12", "23", "34"), "11010");
        CHECKS.is("a chain of six", doneAtDawn("Kbbbbbb", "06", "16", "65", "54", "43", "32", "20"), "1101010");
        NightfallVillage kill = Villages.night("Kb---", "02", "10");
        CHECKS.is("a blocked killer kills nobody", kill.dawn(), 0);
    }

    private static void blocksInRings() {
        CHECKS.is("two block each other", doneAtDawn("bb-K", "01", "10"), "0000");
        CHECKS.is("three in a ring", doneAtDawn("bbb-K", "01", "12", "20"), "00000");
        CHECKS.is("one outside opens the ring", doneAtDawn("bbb-K", "01", "10", "20"), "01100");
        CHECKS.is("a ring of three opened", doneAtDawn("bbbb-K", "01", "12", "20", "30"), "010100");
        CHECKS.is("a ring beside a block that holds", doneAtDawn("bbbs-K", "01", "10", "23", "35"), "001000");
        NightfallVillage ring = Villages.ofActs("bbK-");
        ring.begin();
        Villages.tell(ring, "01", "10", "23");
        CHECKS.is("blocks in a ring block nobody", ring.dawn(), 1);
    }

    private static void blocksOfOneNight() {
        NightfallVillage village = Villages.night("Kbbs---", "12", "23", "30");
        Villages.day(village);
        CHECKS.is("a block blocked", Villages.done(village, 4), "0101");
        Villages.tell(village, "23", "30");
        Villages.day(village);
        CHECKS.is("holds in the next night", Villages.done(village, 4), "0010");
        Villages.tell(village, "30");
        Villages.day(village);
        CHECKS.is("and is gone in the one behind it", village.told(3, 2), 'w');
    }

    private static void turning() {
        NightfallVillage village = Villages.night("Kr---", "02", "10");
        village.dawn();
        CHECKS.is("a killing is turned to the one who turns", Villages.living(village, 5), "0234");
        NightfallVillage two = Villages.night("Krr---", "03", "20", "10");
        two.dawn();
        CHECKS.is("of several to the lowest number", Villages.living(two, 6), "02345");
        NightfallVillage blocked = Villages.night("Krrb--", "04", "20", "10", "31");
        blocked.dawn();
        CHECKS.is("a blocked one turns nothing", Villages.living(blocked, 6), "01345");
        NightfallVillage block = Villages.night("brsK-", "02", "10", "23");
        block.dawn();
        CHECKS.is("a block is not turned", Villages.done(block, 5), "11000");
        NightfallVillage turn = Villages.night("rrK--", "02", "10", "23");
        turn.dawn();
        CHECKS.is("a turning is not turned", Villages.living(turn, 5), "1234");
        NightfallVillage idle = Villages.night("Kr---", "10");
        CHECKS.is("an act not told is not turned", idle.dawn(), 0);
        CHECKS.is("and the turning was done", idle.didAct(1), true);
        NightfallVillage seen = Villages.night("Rs-K-", "12", "01");
        seen.dawn();
        CHECKS.is("what is told is by the turned one", seen.told(1, 0), 'w');
        CHECKS.is("what is seen too", seen.seen(1, 0), 0);
        NightfallVillage guard = Villages.night("Krp--", "01", "12", "23");
        CHECKS.is("a protecting is turned", guard.dawn(), 0);
        NightfallVillage quiet = Villages.night("Krq--", "12", "23");
        quiet.dawn();
        CHECKS.is("a silencing is turned", quiet.isSilenced(1), true);
        CHECKS.is("away from the one told", quiet.isSilenced(3), false);
        NightfallVillage sober = Villages.night("Kdr--", "03", "10", "21");
        CHECKS.is("a drink is turned", sober.dawn(), 1);
    }

    private static void drink() {
        NightfallVillage village = Villages.night("Kd---", "02", "10");
        CHECKS.is("a drunk killer kills nobody", village.dawn(), 0);
        CHECKS.is("and did nothing", village.didAct(0), false);
        NightfallVillage guard = Villages.night("Kdp--", "03", "12", "23");
        CHECKS.is("a drunk one protects nobody", guard.dawn(), 1);
        CHECKS.is("and did nothing either", guard.didAct(2), false);
        NightfallVillage quiet = Villages.night("Kdq--", "12", "23");
        quiet.dawn();
        CHECKS.is("a drunk one silences", quiet.isSilenced(3), true);
        NightfallVillage turn = Villages.night("Kdr--", "03", "12", "20");
        turn.dawn();
        CHECKS.is("a drunk one turns", turn.death(2), 'k');
        NightfallVillage block = Villages.night("Kdb--", "03", "12", "20");
        CHECKS.is("a drunk one blocks", block.dawn(), 0);
        NightfallVillage blocked = Villages.night("Kdb--", "03", "10", "21");
        CHECKS.is("a blocked one makes nobody drunk", blocked.dawn(), 1);
        NightfallVillage next = Villages.night("Kd---", "10");
        Villages.day(next);
        next.act(0, 2);
        CHECKS.is("drunk for one night alone", next.dawn(), 1);
        NightfallVillage twice = Villages.night("Kdd--", "03", "10", "20");
        CHECKS.is("twice drunk is drunk", twice.dawn(), 0);
    }

    private static void protecting() {
        NightfallVillage village = Villages.night("Kp---", "02", "12");
        CHECKS.is("a protected one lives", village.dawn(), 0);
        CHECKS.is("the killing was done", village.didAct(0), true);
        NightfallVillage two = Villages.night("KKp----", "03", "13", "23");
        CHECKS.is("against two as well", two.dawn(), 0);
        NightfallVillage self = Villages.night("Kp---", "01", "12");
        self.dawn();
        CHECKS.is("not the one who protects", Villages.living(self, 5), "0234");
        NightfallVillage lover = Villages.ofActs("Kp---");
        lover.lovers(2, 3);
        lover.begin();
        Villages.tell(lover, "02", "13");
        CHECKS.is("not against love", lover.dawn(), 2);
        NightfallVillage next = Villages.night("Kp---", "12");
        Villages.day(next);
        next.act(0, 2);
        CHECKS.is("for one night alone", next.dawn(), 1);
        NightfallVillage both = Villages.night("KpK----", "01", "13", "23");
        both.dawn();
        CHECKS.is("one killed protects all the same", Villages.deaths(both, 7), "-k-----");
    }

    private static NightfallVillage seer(boolean isFool, boolean isDrunk, int target) {
        NightfallVillage village = new NightfallVillage();
        village.role('v', 's', 1, false, isFool, false);
        village.role('w', '-', 1, false, false, false);
        village.role('l', '-', 1, false, false, false);
        village.role('v', 'd', 1, false, false, false);
        for (int seat = 0; seat < 4; seat++) {
            village.seat(seat);
        }
        village.begin();
        village.act(0, target);
        if (isDrunk) {
            village.act(3, 0);
        }
        village.dawn();
        return village;
    }

    private static void seeing() {
        CHECKS.is("a wolf", seer(false, false, 1).told(0, 0), 'w');
        CHECKS.is("a villager", seer(false, false, 3).told(0, 0), 'v');
        CHECKS.is("a lone one counts v", seer(false, false, 2).told(0, 0), 'v');
        CHECKS.is("a wolf by a fool", seer(true, false, 1).told(0, 0), 'v');
        CHECKS.is("a lone one by a fool", seer(true, false, 2).told(0, 0), 'w');
        CHECKS.is("a wolf by a drunk one", seer(false, true, 1).told(0, 0), 'v');
        CHECKS.is("a villager by a drunk one", seer(false, true, 3).told(0, 0), 'w');
        CHECKS.is("a wolf by a drunk fool", seer(true, true, 1).told(0, 0), 'w');
        CHECKS.is("a villager by a drunk fool", seer(true, true, 3).told(0, 0), 'v');
        CHECKS.is("others are told nothing", seer(true, true, 3).told(3, 0), '-');
    }

    private static void silence() {
        NightfallVillage village = Villages.night("Kq---", "12", "02");
        village.dawn();
        CHECKS.is("a dead one is silenced", village.isSilenced(2), true);
        CHECKS.is("and does not vote", Checks.answer(() -> village.vote(2, 0)), UNSUPPORTED);
        village.dusk();
        village.dawn();
        CHECKS.is("for one day alone", village.isSilenced(2), false);
        CHECKS.is("it votes on the next day", village.vote(2, 0), false);
        NightfallVillage blocked = Villages.night("Kqb--", "13", "21");
        blocked.dawn();
        CHECKS.is("a blocked one silences nobody", blocked.isSilenced(3), false);
    }

    private static void killing() {
        NightfallVillage village = Villages.night("Kk---", "01", "10");
        village.dawn();
        CHECKS.is("all at once", Villages.deaths(village, 5), "kk---");
        NightfallVillage same = Villages.night("KK-----", "02", "12");
        CHECKS.is("one dies once", same.dawn(), 1);
    }

    /** Seats 3 and 4 are hunters, the others have nothing to die for. */
    private static NightfallVillage hunters(String acts) {
        NightfallVillage village = new NightfallVillage();
        for (int i = 0; i < acts.length(); i++) {
            char act = acts.charAt(i);
            char side = Character.isUpperCase(act) ? 'w' : 'v';
            village.role(side, Character.toLowerCase(act), 1, false, false, i == 3 || i == 4);
            village.seat(i);
        }
        return village;
    }

    private static void deathsFollow() {
        NightfallVillage village = hunters("K------");
        village.mark(3, 4);
        village.mark(4, 5);
        village.lovers(5, 6);
        village.begin();
        village.act(0, 3);
        CHECKS.is("deaths that lead to deaths", village.dawn(), 4);
        CHECKS.is("by what each", Villages.deaths(village, 7), "---khhl");
        NightfallVillage lovers = hunters("K------");
        lovers.mark(3, 5);
        lovers.lovers(3, 5);
        lovers.begin();
        lovers.act(0, 3);
        lovers.dawn();
        CHECKS.is("love comes ahead of the hunter", Villages.deaths(lovers, 7), "---k-l-");
        NightfallVillage both = hunters("Kk-----");
        both.mark(3, 4);
        both.mark(4, 3);
        both.begin();
        Villages.tell(both, "03", "14");
        both.dawn();
        CHECKS.is("those who die at once die by that", Villages.deaths(both, 7), "---kk--");
        NightfallVillage none = hunters("K------");
        none.begin();
        none.act(0, 3);
        CHECKS.is("a hunter without a mark", none.dawn(), 1);
        NightfallVillage order = hunters("Kk-----");
        order.mark(3, 2);
        order.mark(4, 6);
        order.lovers(6, 3);
        order.begin();
        Villages.tell(order, "14", "03");
        order.dawn();
        CHECKS.is("by rising numbers", Villages.deaths(order, 7), "--hkk-l");
    }

    private static void heirs() {
        NightfallVillage village = hunters("K-s----");
        village.heir(1, 2);
        village.heir(3, 1);
        village.heir(5, 2);
        village.begin();
        village.act(0, 2);
        village.dawn();
        CHECKS.is("heirs get the role", village.roleOf(1) * 10 + village.roleOf(5), 22);
        CHECKS.is("the dead keep theirs", village.roleOf(2), 2);
        CHECKS.is("heirs of heirs wait", village.roleOf(3), 3);
        Villages.vote(village, "01");
        village.dusk();
        CHECKS.is("until those die", village.roleOf(3), 2);
        CHECKS.is("no hunter any longer", village.living('*'), 5);
        heirsOfWhatIsUsedUp();
        heirsWhoDieToo();
        heirsWhoHunt();
    }

    private static void heirsOfWhatIsUsedUp() {
        NightfallVillage village = once('p', "23");
        Villages.day(village);
        CHECKS.is("used up", Checks.answer(() -> village.act(2, 1)), UNSUPPORTED);
        for (boolean isUsed : new boolean[] {true, false}) {
            NightfallVillage heir = new NightfallVillage();
            heir.role('w', 'k', 1, false, false, false);
            heir.role('v', 'p', 1, true, false, false);
            heir.role('v', 's', 1, true, false, false);
            for (int seat = 0; seat < 7; seat++) {
                heir.seat(seat == 0 ? 0 : seat < 4 ? 1 : 2);
            }
            heir.heir(1, 5);
            heir.begin();
            heir.act(1, 0);
            Villages.day(heir);
            if (isUsed) {
                heir.act(5, 0);
            }
            heir.act(0, 5);
            Villages.day(heir);
            CHECKS.is("the heir's role", heir.roleOf(1), 2);
            CHECKS.is("used up " + isUsed, Checks.answer(() -> heir.act(1, 0)), isUsed ? UNSUPPORTED : (Object) false);
        }
    }

    private static void heirsWhoDieToo() {
        NightfallVillage village = Villages.ofActs("Kks----");
        village.heir(3, 2);
        village.begin();
        Villages.tell(village, "02", "13");
        village.dawn();
        CHECKS.is("an heir who dies at once gets nothing", village.roleOf(3), 3);
        NightfallVillage lover = Villages.ofActs("K-s----");
        lover.heir(3, 2);
        lover.lovers(2, 3);
        lover.begin();
        lover.act(0, 2);
        lover.dawn();
        CHECKS.is("nor a lover as heir", lover.roleOf(3), 3);
        NightfallVillage other = Villages.ofActs("K-s----");
        other.lovers(2, 3);
        other.heir(4, 3);
        other.begin();
        other.act(0, 2);
        other.dawn();
        CHECKS.is("the heir of one who died by love", other.roleOf(4), 3);
    }

    /** Seat 4 waits as heir of the hunter 3: it hunts by its own mark, as it dies later in the same chain. */
    private static void heirsWhoHunt() {
        NightfallVillage village = new NightfallVillage();
        village.role('w', 'k', 1, false, false, false);
        village.role('v', '-', 1, false, false, false);
        village.role('v', '-', 1, false, false, true);
        int[] roles = {0, 1, 1, 2, 1, 1, 1};
        for (int role : roles) {
            village.seat(role);
        }
        village.heir(4, 3);
        village.mark(3, 2);
        village.lovers(2, 4);
        village.mark(4, 5);
        village.begin();
        village.act(0, 3);
        village.dawn();
        CHECKS.is("an heir who hunts", Villages.deaths(village, 7), "--hklh-");
    }

    private static void promise11() {
        NightfallVillage village = Villages.night("Kprsq-d", "01", "16", "23", "34", "45", "63");
        village.dawn();
        CHECKS.is("all that was done", Villages.done(village, 7), "1111101");
        village.dusk();
        Villages.tell(village, "02");
        CHECKS.is("until the next dawn", Villages.done(village, 7), "1111101");
        village.dawn();
        CHECKS.is("then the next night", Villages.done(village, 7), "1000000");
        CHECKS.refuses("didAct of -1", INDEX, Villages::exampleAtDay, x -> x.didAct(-1));
        CHECKS.refuses("didAct of 5", INDEX, Villages::exampleAtDay, x -> x.didAct(5));
        CHECKS.refuses("didAct of 5 at night", INDEX, Villages::exampleBegun, x -> x.didAct(5));
        CHECKS.refuses("didAct in the first night", NO_ELEMENT, Villages::exampleBegun, x -> x.didAct(0));
        CHECKS.refuses("didAct ahead of the game", NO_ELEMENT, Villages::exampleDealt, x -> x.didAct(0));
        CHECKS.is("behind the game", Villages.exampleOver().didAct(2), true);
        CHECKS.is("the drunk seer's", Villages.exampleOver().didAct(1), true);
    }

    private static void promise12And13() {
        NightfallVillage village = Villages.night("Ks---", "10");
        Villages.day(village);
        Villages.tell(village, "12", "13");
        Villages.day(village);
        village.dawn();
        CHECKS.is("night 0 told", village.told(1, 0), 'w');
        CHECKS.is("night 0 seen", village.seen(1, 0), 0);
        CHECKS.is("night 1 told", village.told(1, 1), 'v');
        CHECKS.is("night 1 seen", village.seen(1, 1), 3);
        CHECKS.is("night 2 told nothing", village.told(1, 2), '-');
        CHECKS.is("night 2 seen nobody", village.seen(1, 2), -1);
        CHECKS.is("others see nobody", village.seen(0, 0), -1);
        NightfallVillage blocked = Villages.night("Ksb--", "10", "21");
        blocked.dawn();
        CHECKS.is("a blocked one is told nothing", blocked.told(1, 0), '-');
        CHECKS.is("a blocked one sees nobody", blocked.seen(1, 0), -1);
        for (int night : new int[] {-1, 1, 2, Integer.MAX_VALUE, Integer.MIN_VALUE}) {
            CHECKS.refuses("told in night " + night, NO_ELEMENT, Villages::exampleAtDay, x -> x.told(1, night));
            CHECKS.refuses("seen in night " + night, NO_ELEMENT, Villages::exampleAtDay, x -> x.seen(1, night));
        }
        CHECKS.refuses("told in a night not over", NO_ELEMENT, Villages::exampleBegun, x -> x.told(1, 0));
        CHECKS.refuses("seen in a night not over", NO_ELEMENT, Villages::exampleBegun, x -> x.seen(1, 0));
        CHECKS.refuses("told ahead of the game", NO_ELEMENT, Villages::exampleDealt, x -> x.told(1, 0));
        CHECKS.refuses("seen ahead of the game", NO_ELEMENT, Villages::exampleDealt, x -> x.seen(1, 0));
        CHECKS.refuses("told of 5", INDEX, Villages::exampleBegun, x -> x.told(5, 0));
        CHECKS.refuses("seen of 5", INDEX, Villages::exampleBegun, x -> x.seen(5, 0));
        CHECKS.refuses("told of -1", INDEX, Villages::exampleAtDay, x -> x.told(-1, 0));
        CHECKS.refuses("seen of -1", INDEX, Villages::exampleAtDay, x -> x.seen(-1, 0));
    }
}
