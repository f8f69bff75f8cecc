/** Promises 37 to 40. */
public final class FiguresTest {
    private static final Class<?> STATE = IllegalStateException.class;
    private static final Class<?> NO_ELEMENT = java.util.NoSuchElementException.class;
    private static final Checks CHECKS = new Checks("FiguresTest");

    private FiguresTest() {
    }

    public static void main(String[] args) {
        promise37();
        promise38();
        promise39();
        promise40();
        soundBehindOtherHistories();
        longGame();
        CHECKS.end();
    }

    private static void promise37() {
        CHECKS.is("without seats", new NightfallVillage().checksum(), 7L);
        CHECKS.is("one seat", Villages.ofActs("K").checksum(), 7L * 31 + 10 * '-');
        CHECKS.is("two seats", Villages.ofActs("K-").checksum(), (7L * 31 + 10 * '-') * 31 + 1 + 10 * '-');
        CHECKS.is("the example's", Villages.exampleOver().checksum(), 1193848646L);
        long sum = 7;
        for (int seat = 0; seat < 7; seat++) {
            sum = 31 * sum + seat + 450;
        }
        CHECKS.is("seven seats, beyond an int", Villages.ofActs("-------").checksum(), sum);
        CHECKS.is("which is much", sum > Integer.MAX_VALUE, true);
    }

    private static void promise38() {
        CHECKS.is("the example's", Villages.exampleOver().livingShare(), 0.2f);
        CHECKS.is("all", Villages.ofActs("K-").livingShare(), 1.0f);
        NightfallVillage village = Villages.night("K------", "01");
        village.dawn();
        CHECKS.is("six of seven", village.livingShare(), 6.0f / 7.0f);
        NightfallVillage none = Villages.night("Kkk", "01", "12", "20");
        none.dawn();
        CHECKS.is("none of three", none.livingShare(), 0.0f);
        CHECKS.refuses("without seats", NO_ELEMENT, NightfallVillage::new, x -> x.livingShare());
    }

    private static void promise39() {
        CHECKS.is("the example's", Villages.exampleOver().meanWorlds(), 33.6);
        CHECKS.is("in its first night", Villages.exampleBegun().meanWorlds(), (24 + 48 + 24 + 24 + 48) / 5.0);
        NightfallVillage village = new NightfallVillage();
        village.role('w', '-', 1, false, false, false);
        village.role('v', '-', 1, false, false, false);
        village.seat(0);
        village.seat(1);
        village.seat(1);
        village.begin();
        CHECKS.is("no whole number", village.meanWorlds(), 5.0 / 3.0);
        CHECKS.refuses("ahead of the game", STATE, Villages::exampleDealt, x -> x.meanWorlds());
        CHECKS.refuses("without seats", STATE, NightfallVillage::new, x -> x.meanWorlds());
    }

    private static void promise40() {
        CHECKS.is("a new one", new NightfallVillage().isSound(), true);
        CHECKS.is("ahead of the game", Villages.exampleDealt().isSound(), true);
        CHECKS.is("in the first night", Villages.exampleBegun().isSound(), true);
        CHECKS.is("at day, with an heir", Villages.exampleAtDay().isSound(), true);
        CHECKS.is("behind the game", Villages.exampleOver().isSound(), true);
        NightfallVillage village = Villages.night("Ksd----", "03", "10", "21");
        village.dawn();
        CHECKS.is("with what was told wrongly", village.isSound(), true);
        Villages.vote(village, "34", "04");
        village.dusk();
        CHECKS.is("with a ghost", village.isSound(), true);
    }

    private static void soundBehindOtherHistories() {
        NightfallVillage village = Villages.ofActs("Kp-----");
        village.heir(3, 2);
        village.begin();
        Villages.tell(village, "02", "12");
        village.dawn();
        CHECKS.is("an heir would get a role", village.alive(1, 5), 0b1111011);
        CHECKS.is("but none did", village.isSound(), true);
    }

    /** As many calls as an object is used for, all told. */
    private static void longGame() {
        NightfallVillage village = Villages.ofActs("Ks-");
        village.begin();
        for (int night = 0; night < 166; night++) {
            village.act(1, night % 2 == 0 ? 0 : 2);
            village.dawn();
            village.dusk();
        }
        CHECKS.is("the last night", village.told(1, 164), 'w');
        CHECKS.is("the one behind it", village.told(1, 165), 'v');
        boolean isKept = true;
        for (int night = 0; night < 166; night++) {
            isKept = isKept && village.told(1, night) == (night % 2 == 0 ? 'w' : 'v')
                && village.seen(1, night) == night % 2 * 2;
        }
        CHECKS.is("all nights are kept", isKept, true);
        CHECKS.is("its number", village.number(), 166);
        CHECKS.is("gone through again", village.alive(0, 2), 7);
        CHECKS.is("sound", village.isSound(), true);
        NightfallVillage all = Villages.night("sSsssss", "01", "12", "23", "34", "45", "56", "60");
        Villages.day(all);
        for (int night = 1; night < 200; night++) {
            Villages.day(all);
        }
        StringBuilder told = new StringBuilder();
        for (int seat = 0; seat < 7; seat++) {
            told.append(all.told(seat, 0)).append(all.seen(seat, 0)).append(all.told(seat, 199));
        }
        CHECKS.is("night 0 is kept", told.toString(), "w1-v2-v3-v4-v5-v6-v0-");
        NightfallVillage short2 = Villages.ofActs("K--");
        short2.begin();
        for (int night = 0; night < 252; night++) {
            Villages.day(short2);
        }
        CHECKS.is("252 nights", short2.number(), 252);
        CHECKS.is("the last one is over", short2.told(0, 251), '-');
        CHECKS.is("sound as well", short2.isSound(), true);
    }
}
