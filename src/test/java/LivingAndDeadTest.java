/** Promises 20 to 23, 26 and 27. */
public final class LivingAndDeadTest {
    private static final Class<?> INDEX = IndexOutOfBoundsException.class;
    private static final Class<?> STATE = IllegalStateException.class;
    private static final Checks CHECKS = new Checks("LivingAndDeadTest");

    private LivingAndDeadTest() {
    }

    public static void main(String[] args) {
        promise20();
        promise21();
        promise22();
        promise23();
        promise26();
        promise27();
        CHECKS.end();
    }

    /** A role for each sign of a text: side v, w or l, and upper case if it kills; seats likewise. */
    private static NightfallVillage ofSides(String sides) {
        NightfallVillage village = new NightfallVillage();
        for (int i = 0; i < sides.length(); i++) {
            char sign = sides.charAt(i);
            char act = Character.isUpperCase(sign) ? 'k' : '-';
            village.role(Character.toLowerCase(sign), act, 1, false, false, false);
            village.seat(i);
        }
        return village;
    }

    private static NightfallVillage dawnOf(String sides, String... targets) {
        NightfallVillage village = ofSides(sides);
        village.begin();
        Villages.tell(village, targets);
        village.dawn();
        return village;
    }

    private static void promise20() {
        NightfallVillage village = ofSides("Wlvvlvv");
        CHECKS.is("wolves ahead of the game", village.living('w'), 1);
        CHECKS.is("lone ones ahead of the game", village.living('l'), 2);
        village.heir(3, 1);
        village.begin();
        village.act(0, 1);
        village.dawn();
        CHECKS.is("all", village.living('*'), 6);
        CHECKS.is("an heir counts by the new role", village.living('l'), 2);
        CHECKS.is("and not by the old one", village.living('v'), 3);
        CHECKS.is("wolves", village.living('w'), 1);
        CHECKS.is("of a new village", new NightfallVillage().living('v'), 0);
        for (char side : new char[] {'-', 'n', 'k', 'V', 0, (char) 65535}) {
            CHECKS.refuses("living of " + (int) side, IllegalArgumentException.class, Villages::exampleAtDay,
                x -> x.living(side));
        }
    }

    private static void promise21() {
        CHECKS.is("ahead of the game", Villages.deaths(Villages.exampleDealt(), 5), "-----");
        CHECKS.is("killed", Villages.deaths(Villages.exampleAtDay(), 5), "-k---");
        CHECKS.is("by a hunter, as a lover, exiled", Villages.deaths(Villages.exampleOver(), 5), "hklx-");
        CHECKS.refuses("death of -1", INDEX, Villages::exampleAtDay, x -> x.death(-1));
        CHECKS.refuses("death of 5", INDEX, Villages::exampleAtDay, x -> x.death(5));
    }

    private static void promise22() {
        NightfallVillage village = Villages.exampleDealt();
        CHECKS.is("as dealt", village.roleOf(2), 2);
        NightfallVillage day = Villages.exampleAtDay();
        CHECKS.is("of an heir", day.roleOf(2), 1);
        CHECKS.is("of a dead one", day.roleOf(1), 1);
        CHECKS.is("as it died", Villages.exampleOver().roleOf(2), 1);
        CHECKS.refuses("roleOf -1", INDEX, Villages::exampleAtDay, x -> x.roleOf(-1));
        CHECKS.refuses("roleOf 5", INDEX, Villages::exampleAtDay, x -> x.roleOf(5));
    }

    private static void promise23() {
        NightfallVillage village = Villages.exampleDealt();
        CHECKS.is("once", village.dealt(1), 1);
        village.role('l', 'q', 1, false, false, false);
        CHECKS.is("never", village.dealt(5), 0);
        village.seat(1);
        CHECKS.is("twice", village.dealt(1), 2);
        CHECKS.is("heirs do not count", Villages.exampleAtDay().dealt(1), 1);
        CHECKS.is("nor do they take away", Villages.exampleAtDay().dealt(2), 1);
        CHECKS.refuses("dealt of -1", INDEX, Villages::exampleAtDay, x -> x.dealt(-1));
        CHECKS.refuses("dealt of 5", INDEX, Villages::exampleAtDay, x -> x.dealt(5));
    }

    private static void promise26() {
        CHECKS.is("ahead of the game", Villages.exampleDealt().winner(), '-');
        CHECKS.is("in the game", Villages.exampleAtDay().winner(), '-');
        CHECKS.is("behind it", Villages.exampleOver().winner(), 'v');
        CHECKS.is("nobody lives", nobodyLives().winner(), 'n');
        CHECKS.is("one lone seat", dawnOf("LLL", "01", "12").winner(), 'l');
        CHECKS.is("two lone seats go on", dawnOf("Lll", "01").winner(), '-');
        CHECKS.is("villagers alone", dawnOf("vvv").winner(), 'v');
        CHECKS.is("villagers and a lone one go on", dawnOf("vlv").winner(), '-');
        CHECKS.is("as many wolves", dawnOf("Wvv", "01").winner(), 'w');
        CHECKS.is("as many wolves as others of both sides", dawnOf("Wvvlw", "01").winner(), 'w');
        CHECKS.is("fewer wolves", dawnOf("Wvv").winner(), '-');
        CHECKS.is("wolves alone", dawnOf("www").winner(), 'w');
        CHECKS.is("one villager alone", dawnOf("VvW", "02", "21").winner(), 'v');
        CHECKS.is("one wolf alone", dawnOf("WWv", "01", "12").winner(), 'w');
        NightfallVillage exile = dawnOf("Wvvv");
        exile.vote(1, 2);
        exile.dusk();
        CHECKS.is("an exile leaves fewer", exile.winner(), '-');
        exile.dawn();
        exile.vote(1, 3);
        exile.dusk();
        CHECKS.is("an exile leaves as many", exile.winner(), 'w');
        NightfallVillage wolf = dawnOf("Wvvv");
        wolf.vote(1, 0);
        wolf.dusk();
        CHECKS.is("the wolf is exiled", wolf.winner(), 'v');
    }

    private static NightfallVillage nobodyLives() {
        NightfallVillage village = ofSides("WVV");
        village.begin();
        Villages.tell(village, "01", "12", "20");
        village.dawn();
        return village;
    }

    private static void promise27() {
        NightfallVillage village = Villages.exampleOver();
        CHECKS.is("a dead wolf", village.score(0), 0);
        CHECKS.is("a dead villager", village.score(1), 2);
        CHECKS.is("a living villager", village.score(4), 3);
        NightfallVillage wolves = dawnOf("Wvvlw", "01");
        CHECKS.is("a living wolf", wolves.score(4), 3);
        CHECKS.is("a living lone one", wolves.score(3), 1);
        CHECKS.is("a living villager who lost", wolves.score(2), 1);
        CHECKS.is("a dead villager who lost", wolves.score(1), 0);
        CHECKS.is("nobody wins", nobodyLives().score(0), 0);
        CHECKS.is("the lone one", dawnOf("LLL", "01", "12").score(0), 3);
        CHECKS.is("a dead lone one", dawnOf("LLL", "01", "12").score(1), 2);
        NightfallVillage heir = ofSides("WWvvv");
        heir.heir(2, 1);
        heir.begin();
        Villages.tell(heir, "01");
        heir.dawn();
        CHECKS.is("an heir wins with the new side", heir.score(2), 3);
        CHECKS.refuses("score of -1", INDEX, Villages::exampleOver, x -> x.score(-1));
        CHECKS.refuses("score of 5", INDEX, Villages::exampleOver, x -> x.score(5));
        CHECKS.refuses("score of 5 in the game", INDEX, Villages::exampleAtDay, x -> x.score(5));
        CHECKS.refuses("score in the game", STATE, Villages::exampleAtDay, x -> x.score(0));
        CHECKS.refuses("score ahead of the game", STATE, Villages::exampleDealt, x -> x.score(0));
    }
}
