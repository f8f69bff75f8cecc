/** Villages that the tests begin with. */
final class Villages {
    static final int WOLF = 0;
    static final int SEER = 1;
    static final int DRINKER = 2;
    static final int HUNTER = 3;
    static final int FOOL = 4;

    private Villages() {
    }

    /** The five roles and seats of the document's first example, ahead of the first night. */
    static NightfallVillage exampleDealt() {
        NightfallVillage village = new NightfallVillage();
        village.role('w', 'k', 1, false, false, false);
        village.role('v', 's', 1, false, false, false);
        village.role('v', 'd', 2, true, false, false);
        village.role('v', '-', 1, false, false, true);
        village.role('v', 's', 1, false, true, false);
        village.seems(FOOL, SEER);
        for (int seat = 0; seat < 5; seat++) {
            village.seat(seat);
        }
        village.lovers(3, 2);
        village.heir(2, 1);
        village.mark(3, 0);
        return village;
    }

    static NightfallVillage exampleBegun() {
        NightfallVillage village = exampleDealt();
        village.begin();
        return village;
    }

    static NightfallVillage exampleAtDay() {
        NightfallVillage village = exampleBegun();
        village.act(0, 1);
        village.act(1, 0);
        village.act(2, 1);
        village.act(4, 0);
        village.dawn();
        return village;
    }

    static NightfallVillage exampleVoted() {
        NightfallVillage village = exampleAtDay();
        village.claim(4, 0, 'w');
        village.vote(0, 3);
        village.vote(2, 3);
        return village;
    }

    static NightfallVillage exampleOver() {
        NightfallVillage village = exampleVoted();
        village.dusk();
        return village;
    }

    /**
     * One role for each sign of a text, of that act, and a seat for each sign; an upper case sign is side 'w', a
     * lower case one and '-' side 'v'. Role and seat have the same number. Not begun.
     */
    static NightfallVillage ofActs(String acts) {
        NightfallVillage village = new NightfallVillage();
        for (int i = 0; i < acts.length(); i++) {
            char act = acts.charAt(i);
            char side = Character.isUpperCase(act) ? 'w' : 'v';
            village.role(side, Character.toLowerCase(act), 1, false, false, false);
            village.seat(i);
        }
        return village;
    }

    /** The same, begun, with targets told: pairs of digits, the seat and its target. */
    static NightfallVillage night(String acts, String... targets) {
        NightfallVillage village = ofActs(acts);
        village.begin();
        tell(village, targets);
        return village;
    }

    static void tell(NightfallVillage village, String... targets) {
        for (String pair : targets) {
            village.act(pair.charAt(0) - '0', pair.charAt(1) - '0');
        }
    }

    static void vote(NightfallVillage village, String... ballots) {
        for (String pair : ballots) {
            village.vote(pair.charAt(0) - '0', pair.charAt(1) - '0');
        }
    }

    static void day(NightfallVillage village) {
        village.dawn();
        village.dusk();
    }

    /** Who lives, as digits. */
    static String living(NightfallVillage village, int seats) {
        StringBuilder text = new StringBuilder();
        for (int seat = 0; seat < seats; seat++) {
            if (village.isAlive(seat)) {
                text.append(seat);
            }
        }
        return text.toString();
    }

    static String deaths(NightfallVillage village, int seats) {
        StringBuilder text = new StringBuilder();
        for (int seat = 0; seat < seats; seat++) {
            text.append(village.death(seat));
        }
        return text.toString();
    }

    static String done(NightfallVillage village, int seats) {
        StringBuilder text = new StringBuilder();
        for (int seat = 0; seat < seats; seat++) {
            text.append(village.didAct(seat) ? '1' : '0');
        }
        return text.toString();
    }
}
