/** The boundary cases that the sentences of 'Terms' name, one after the other. */
public final class TermsTest {
    private static final Class<?> UNSUPPORTED = UnsupportedOperationException.class;
    private static final Checks CHECKS = new Checks("TermsTest");

    private TermsTest() {
    }

    public static void main(String[] args) {
        roles();
        masks();
        seats();
        marksAndHeirs();
        blocks();
        turning();
        drink();
        protecting();
        seeing();
        silence();
        killing();
        once();
        orderOfDying();
        withinOneDeath();
        deathAtDusk();
        votes();
        ghosts();
        wins();
        winsByDeaths();
        worldsOfTheDead();
        worldsOfSights();
        claims();
        histories();
        CHECKS.end();
    }

    /** Roles told as side, act and flags: o acts once, f is a fool, h a hunter, 2 weighs 2. */
    private static NightfallVillage of(String roles, String seats) {
        NightfallVillage village = new NightfallVillage();
        for (String role : roles.split(" ")) {
            village.role(role.charAt(0), role.charAt(1), role.contains("2") ? 2 : 1, role.indexOf('o', 2) > 0,
                role.indexOf('f', 2) > 0, role.indexOf('h', 2) > 0);
        }
        for (char seat : seats.toCharArray()) {
            village.seat(seat - '0');
        }
        return village;
    }

    private static NightfallVillage begun(NightfallVillage village, String... targets) {
        village.begin();
        Villages.tell(village, targets);
        return village;
    }

    private static String rolesOf(NightfallVillage village, int seats) {
        StringBuilder text = new StringBuilder();
        for (int seat = 0; seat < seats; seat++) {
            text.append(village.roleOf(seat));
        }
        return text.toString();
    }

    // ---- roles and seats ----

    private static void roles() {
        NightfallVillage cross = Villages.ofActs("---");
        cross.seems(0, 1);
        cross.seems(1, 0);
        cross.begin();
        CHECKS.is("two that seem each other are told apart", cross.worlds(0), 2);
        CHECKS.is("by the other one too", cross.worlds(1), 2);
        NightfallVillage third = of("v- w- v- v-", "012");
        third.seems(0, 3);
        third.seems(1, 3);
        third.begin();
        CHECKS.is("two that seem one never dealt", third.worlds(0), 4);
        CHECKS.is("the one never dealt is not had", third.possible(0, 0, 3), 0);
        CHECKS.is("who has another one knows it", third.worlds(2), 2);
        NightfallVillage itself = Villages.ofActs("---");
        itself.seems(0, 1);
        itself.begin();
        CHECKS.is("one that seems itself is seemed by another", itself.worlds(1), 4);
        CHECKS.is("and may be that", itself.possible(1, 1, 0), 2);
    }

    /** What a role seems is for those who have it alone: all that it is stays. */
    private static void masks() {
        NightfallVillage village = of("wko2h v- vs", "0121111");
        village.seems(0, 1);
        village.mark(0, 4);
        begun(village, "01", "20");
        CHECKS.is("one that takes itself for a villager kills", village.dawn(), 1);
        CHECKS.is("is of its side", village.living('w'), 1);
        CHECKS.is("is seen as that", village.told(2, 0), 'w');
        CHECKS.is("is that in all worlds", village.possible(2, 0, 0), village.worlds(2));
        CHECKS.is("surely", village.sure(2, 0), 'w');
        village.claim(3, 0, 'w');
        CHECKS.is("as is claimed", village.holds(2, 0), 't');
        CHECKS.is("for itself too it may be a wolf or none", village.sure(0, 0), '?');
        village.vote(0, 5);
        CHECKS.is("has its weight", village.votes(5), 2);
        Villages.vote(village, "30", "40", "50");
        village.dusk();
        CHECKS.is("hunts", Villages.deaths(village, 7), "xk--h--");
        CHECKS.is("and was all of its side", village.winner(), 'v');
        NightfallVillage once = of("wko v- vso", "0121111");
        once.seems(0, 1);
        begun(once, "01");
        Villages.day(once);
        CHECKS.is("acts once", Checks.answer(() -> once.act(0, 3)), UNSUPPORTED);
        NightfallVillage often = of("wk v-o", "0111111");
        often.seems(0, 1);
        begun(often, "01");
        Villages.day(often);
        CHECKS.is("or often", often.act(0, 3), false);
    }

    private static void seats() {
        NightfallVillage same = of("w-", "0000000");
        CHECKS.is("one role seven times", same.dealt(0), 7);
        same.begin();
        CHECKS.is("is one world", same.known(), 1);
        CHECKS.is("in which all have it", same.possible(0, 6, 0), 1);
        NightfallVillage lovers = Villages.ofActs("KK-----");
        lovers.lovers(5, 6);
        begun(lovers, "05", "16");
        CHECKS.is("lovers killed at once", lovers.dawn(), 2);
        CHECKS.is("died by that both", Villages.deaths(lovers, 7), "-----kk");
        NightfallVillage left = Villages.ofActs("Kp-----");
        left.lovers(2, 3);
        begun(left, "02", "13");
        CHECKS.is("two die", left.dawn(), 2);
        CHECKS.is("the second one by love", Villages.deaths(left, 7), "--kl---");
        left.vote(0, 4);
        CHECKS.is("nobody loves the next one", left.dusk(), 4);
        CHECKS.is("so one dies", left.living('*'), 4);
        NightfallVillage none = Villages.night("K----", "01");
        CHECKS.is("without lovers one dies", none.dawn(), 1);
        CHECKS.is("days begin with 0", none.number(), 0);
        none.dusk();
        CHECKS.is("night 1 comes behind day 0", none.number() + (none.isNight() ? 10 : 0), 11);
        none.dawn();
        CHECKS.is("then day 1", none.number() + (none.isNight() ? 10 : 0), 1);
    }

    private static void marksAndHeirs() {
        NightfallVillage dead = of("wk v- v-h", "0121111");
        dead.mark(2, 1);
        begun(dead, "01");
        Villages.day(dead);
        dead.act(0, 2);
        CHECKS.is("a hunter whose mark is dead", dead.dawn(), 1);
        CHECKS.is("the mark died once", dead.death(1), 'k');
        NightfallVillage ring = of("wk v- vs vp", "0123111");
        ring.heir(2, 3);
        ring.heir(3, 2);
        begun(ring, "03");
        Villages.day(ring);
        CHECKS.is("of two heirs of each other one gets a role", rolesOf(ring, 7), "0133111");
        ring.act(0, 2);
        Villages.day(ring);
        CHECKS.is("then nobody", rolesOf(ring, 7), "0133111");
        NightfallVillage both = of("wk vs vp v- vk", "0412333");
        both.heir(3, 2);
        both.heir(4, 3);
        begun(both, "02", "13");
        both.dawn();
        CHECKS.is("an heir killed with the one it is heir of leaves its own role", rolesOf(both, 7), "0412233");
        NightfallVillage nobody = of("wk vs v-", "0122222");
        begun(nobody, "01");
        nobody.dawn();
        CHECKS.is("without heirs nobody gets a role", rolesOf(nobody, 7), "0122222");
        CHECKS.is("and the dead are known", nobody.known(), 6);
    }

    // ---- nights ----

    private static String done(NightfallVillage village, int seats) {
        village.dawn();
        return Villages.done(village, seats);
    }

    private static void blocks() {
        CHECKS.is("seven in a ring", done(Villages.night("bbbbbbb", "01", "12", "23", "34", "45", "56", "60"), 7),
            "0000000");
        CHECKS.is("a row of seven", done(Villages.night("bbbbbbb", "65", "54", "43", "32", "21", "10", "01"), 7),
            "1010101");
        CHECKS.is("six block one", done(Villages.night("Kbbbbbb", "01", "10", "20", "30", "40", "50", "60"), 7),
            "0111111");
        CHECKS.is("a block of one who tells nothing", done(Villages.night("bk-K", "01"), 4), "1000");
        CHECKS.is("a block of one without an act", done(Villages.night("b--K", "01"), 4), "1000");
        CHECKS.is("one who tells no target blocks nobody", done(Villages.night("bbKs", "10", "20"), 4), "0110");
        CHECKS.is("a ring that is opened from both ends", done(Villages.night("bbbbK--", "01", "10", "20", "31"), 7),
            "0011000");
        NightfallVillage blocked = of("vbo vb w- vp", "0112333");
        begun(blocked, "01", "20");
        Villages.day(blocked);
        CHECKS.is("a blocked block is not used up", blocked.act(0, 1), false);
        NightfallVillage holding = of("vbo vb w- vp", "0112333");
        begun(holding, "01");
        Villages.day(holding);
        CHECKS.is("one that holds is", Checks.answer(() -> holding.act(0, 1)), UNSUPPORTED);
    }

    private static void turning() {
        NightfallVillage back = Villages.night("Kr---", "01", "10");
        CHECKS.is("an act on the one who turns stays", back.dawn(), 1);
        CHECKS.is("who dies, and has turned", back.death(1) + (back.didAct(1) ? 1000 : 0), 'k' + 1000);
        CHECKS.is("two turn each other", done(Villages.night("rr-K", "01", "10"), 4), "1100");
        NightfallVillage third = Villages.night("rrK----", "01", "12", "24");
        third.dawn();
        CHECKS.is("one who is to be turned turns", Villages.deaths(third, 7), "-k-----");
        NightfallVillage blocked = Villages.night("Krb--", "03", "10", "20");
        CHECKS.is("a blocked act is not done when turned", blocked.dawn(), 0);
        NightfallVillage high = Villages.night("-----rK", "60", "56");
        high.dawn();
        CHECKS.is("the highest numbers", Villages.deaths(high, 7), "-----k-");
        NightfallVillage lowest = Villages.night("rrrrrrK", "65", "56", "46", "36", "26", "16", "06");
        lowest.dawn();
        CHECKS.is("of six the lowest", Villages.deaths(lowest, 7), "k------");
        NightfallVillage used = of("w- vpo vr v-", "0123333");
        begun(used, "13", "21");
        Villages.day(used);
        CHECKS.is("a turned act is used up", Checks.answer(() -> used.act(1, 3)), UNSUPPORTED);
        NightfallVillage next = Villages.night("Kr-----", "10");
        Villages.day(next);
        next.act(0, 2);
        next.dawn();
        CHECKS.is("turned in one night alone", Villages.deaths(next, 7), "--k----");
        NightfallVillage drunk = Villages.night("Kdr----", "03", "12", "21");
        drunk.dawn();
        CHECKS.is("a drink turned to the one who turns", Villages.deaths(drunk, 7), "---k---");
    }

    private static void drink() {
        NightfallVillage each = Villages.night("Kdd--", "03", "12", "21");
        CHECKS.is("drinkers drunk of each other", done(each, 5), "11100");
        NightfallVillage served = Villages.night("Kdd--", "03", "10", "21");
        CHECKS.is("a drunk one serves drink", done(served, 5), "01100");
        CHECKS.is("so nobody dies", served.living('*'), 5);
        NightfallVillage dying = Villages.night("Kkd----", "02", "13", "20");
        dying.dawn();
        CHECKS.is("of two killers one is drunk", Villages.deaths(dying, 7), "---k---");
        NightfallVillage killed = Villages.night("Kkd----", "02", "13", "21");
        killed.dawn();
        CHECKS.is("one killed serves drink all the same", Villages.deaths(killed, 7), "--k----");
        NightfallVillage guard = Villages.night("Kpprd--", "03", "15", "25", "32", "42");
        guard.dawn();
        CHECKS.is("a drunk protecting that is turned", Villages.deaths(guard, 7), "---k---");
        NightfallVillage kill = Villages.night("Kkrd---", "05", "15", "21", "31");
        kill.dawn();
        CHECKS.is("a drunk killing that is turned", Villages.deaths(kill, 7), "-----k-");
        NightfallVillage next = Villages.night("Kdd---", "03", "12", "20");
        CHECKS.is("also if it was served by a lower number", next.dawn(), 0);
        for (char act : "brdsqpk".toCharArray()) {
            NightfallVillage acting = Villages.night("Kd" + act + "---", "12", "23");
            acting.dawn();
            CHECKS.is("a drunk one's act was done: " + act, acting.didAct(2), act != 'p' && act != 'k');
        }
        NightfallVillage idle = Villages.night("Kd---", "12");
        CHECKS.is("drink for one who does nothing", done(idle, 5), "01000");
    }

    private static void protecting() {
        CHECKS.is("nobody attacks", done(Villages.night("Kp---", "12"), 5), "01000");
        NightfallVillage each = Villages.night("Kpp--", "01", "12", "21");
        CHECKS.is("two protect each other", each.dawn(), 0);
        NightfallVillage hunted = of("wk vp v-h v-", "0123333");
        hunted.mark(2, 3);
        begun(hunted, "02", "13");
        hunted.dawn();
        CHECKS.is("not against a hunter", Villages.deaths(hunted, 7), "--kh---");
        NightfallVillage day = Villages.night("Kp-----", "12");
        day.dawn();
        day.vote(0, 2);
        CHECKS.is("nor by day", day.dusk(), 2);
        NightfallVillage one = Villages.night("Kpp----", "03", "13", "24");
        CHECKS.is("one of two is enough", one.dawn(), 0);
        NightfallVillage drunk = Villages.night("Kppd---", "04", "14", "24", "31");
        CHECKS.is("also if the other one is drunk", drunk.dawn(), 0);
        NightfallVillage higher = Villages.night("Kppd---", "04", "14", "24", "32");
        CHECKS.is("of the higher number", higher.dawn(), 0);
    }

    private static void seeing() {
        NightfallVillage killed = Villages.night("Ks---", "01", "10");
        killed.dawn();
        CHECKS.is("one killed is told", killed.told(1, 0), 'w');
        CHECKS.is("and of whom", killed.seen(1, 0), 0);
        NightfallVillage each = of("ws vs v-", "01222");
        begun(each, "01", "10");
        each.dawn();
        CHECKS.is("two see each other", "" + each.told(0, 0) + each.told(1, 0), "vw");
        NightfallVillage heir = Villages.ofActs("Ksk----");
        heir.heir(3, 0);
        begun(heir, "13", "20");
        heir.dawn();
        CHECKS.is("of one who gets a role at that dawn", heir.told(1, 0), 'v');
        heir.dusk();
        heir.act(1, 3);
        heir.dawn();
        CHECKS.is("and behind it", heir.told(1, 1), 'w');
        CHECKS.is("what was told stays", heir.told(1, 0), 'v');
        NightfallVillage fool = of("wk vsf l- vd", "012333");
        begun(fool, "12");
        fool.dawn();
        CHECKS.is("a fool told of a lone one", fool.told(1, 0), 'w');
    }

    private static void silence() {
        NightfallVillage killed = Villages.night("Kq-----", "01", "12");
        killed.dawn();
        CHECKS.is("one killed silences", killed.isSilenced(2), true);
        CHECKS.is("a living one does not vote", Checks.answer(() -> killed.vote(2, 0)), UNSUPPORTED);
        CHECKS.is("but is voted for", killed.vote(3, 2), false);
        CHECKS.is("and that counts", killed.votes(2), 1);
        CHECKS.is("and exiled", killed.dusk(), 2);
        NightfallVillage two = Villages.night("Kqq----", "13", "24");
        two.dawn();
        CHECKS.is("two are silenced", two.isSilenced(3) && two.isSilenced(4), true);
        NightfallVillage same = Villages.night("Kqq----", "13", "23");
        same.dawn();
        CHECKS.is("one by two", same.isSilenced(3), true);
        same.dusk();
        same.dawn();
        CHECKS.is("for one day alone", same.isSilenced(3), false);
        CHECKS.is("then it votes", same.vote(3, 0), false);
        NightfallVillage ghost = Villages.night("Kq-----", "02", "12");
        ghost.dawn();
        CHECKS.is("a silenced ghost keeps its vote", ghost.hasGhostVote(2), true);
        CHECKS.is("that it may not use", Checks.answer(() -> ghost.vote(2, 0)), UNSUPPORTED);
        ghost.dusk();
        ghost.dawn();
        CHECKS.is("for the next day", ghost.vote(2, 0), false);
    }

    private static void killing() {
        NightfallVillage ring = Villages.night("KKKkkkk", "01", "12", "23", "34", "45", "56", "60");
        CHECKS.is("all at once", ring.dawn(), 7);
        CHECKS.is("nobody lives", ring.winner(), 'n');
        CHECKS.is("their acts were done", Villages.done(ring, 7), "1111111");
        NightfallVillage one = Villages.night("KKK----", "06", "16", "26");
        CHECKS.is("one dies by three", one.dawn(), 1);
        CHECKS.is("no more than once", Villages.living(one, 7), "012345");
        NightfallVillage drunk = Villages.night("KKd----", "03", "13", "20");
        CHECKS.is("one sober one is enough", drunk.dawn(), 1);
        NightfallVillage higher = Villages.night("KKd----", "03", "13", "21");
        CHECKS.is("also if the higher number is drunk", higher.dawn(), 1);
    }

    private static void once() {
        NightfallVillage night = of("wko v- v-", "0122222");
        begun(night, "01");
        CHECKS.is("told again ahead of dawn", night.act(0, 2), true);
        CHECKS.is("it kills", night.dawn(), 1);
        night.dusk();
        CHECKS.is("once", Checks.answer(() -> night.act(0, 3)), UNSUPPORTED);
        night.dawn();
        night.dusk();
        CHECKS.is("and for all nights", Checks.answer(() -> night.act(0, 3)), UNSUPPORTED);
        NightfallVillage dead = of("wk vso v-", "0122222");
        dead.heir(3, 1);
        begun(dead, "01", "12");
        Villages.day(dead);
        CHECKS.is("used up in the night of the death", Checks.answer(() -> dead.act(3, 0)), UNSUPPORTED);
        NightfallVillage fresh = of("wk vso v- vpo", "0122322");
        fresh.heir(4, 1);
        begun(fresh, "01", "40");
        Villages.day(fresh);
        CHECKS.is("an heir's own act used up is forgotten", fresh.act(4, 0), false);
    }

    // ---- deaths ----

    /** Seats 3 and 4 are killed, 5 is a hunter too; the others have no act. */
    private static NightfallVillage twoKilled() {
        return of("wk vk v- v-h", "0123332");
    }

    private static void orderOfDying() {
        NightfallVillage rising = twoKilled();
        rising.mark(3, 6);
        rising.lovers(4, 6);
        begun(rising, "04", "13");
        rising.dawn();
        CHECKS.is("3 leads to deaths ahead of 4", Villages.deaths(rising, 7), "---kk-h");
        NightfallVillage love = twoKilled();
        love.mark(4, 6);
        love.lovers(3, 6);
        begun(love, "04", "13");
        love.dawn();
        CHECKS.is("also by love", Villages.deaths(love, 7), "---kk-l");
        NightfallVillage behind = of("wk vk v- v-h vs", "0123432");
        behind.lovers(3, 5);
        behind.mark(5, 6);
        behind.heir(6, 4);
        begun(behind, "03", "14");
        behind.dawn();
        CHECKS.is("those who follow", Villages.deaths(behind, 7), "---kklh");
        CHECKS.is("come behind all others", behind.roleOf(6), 4);
        NightfallVillage next = of("wk vk v- v-h vs", "0123432");
        next.mark(3, 5);
        next.lovers(5, 6);
        next.heir(6, 4);
        begun(next, "03", "14");
        next.dawn();
        CHECKS.is("a lover behind a hunter's mark", Villages.deaths(next, 7), "---kkhl");
        CHECKS.is("dies behind the second one killed", next.roleOf(6), 4);
        NightfallVillage gone = twoKilled();
        gone.heir(6, 4);
        gone.mark(3, 6);
        begun(gone, "03", "14");
        gone.dawn();
        CHECKS.is("one who died by the first is no heir of the second", gone.roleOf(6), 2);
        CHECKS.is("so no heir got a role", gone.known(), 24);
        NightfallVillage ring = of("wk v-h v-", "0111111");
        for (int seat = 1; seat < 7; seat++) {
            ring.mark(seat, seat % 6 + 1);
        }
        begun(ring, "04");
        CHECKS.is("a ring of hunters", ring.dawn(), 6);
        CHECKS.is("each dies once", Villages.deaths(ring, 7), "-hhhkhh");
        CHECKS.is("and the wolf is left", ring.winner(), 'w');
    }

    private static void withinOneDeath() {
        NightfallVillage mark = of("wk v-h v-", "0122222");
        mark.mark(1, 2);
        mark.heir(2, 1);
        begun(mark, "01");
        mark.dawn();
        CHECKS.is("one marked dies ahead of being an heir", mark.roleOf(2), 2);
        NightfallVillage love = of("wk v-h v-", "0122222");
        love.mark(1, 2);
        love.lovers(1, 2);
        begun(love, "01");
        love.dawn();
        CHECKS.is("one loved and marked dies by love", love.death(2), 'l');
        NightfallVillage killer = of("wk v-h v-", "0122222");
        killer.mark(1, 0);
        begun(killer, "01");
        CHECKS.is("the killer dies by the hunter", killer.dawn(), 2);
        CHECKS.is("and the village wins", killer.winner(), 'v');
        NightfallVillage heir = of("wk v-h v-", "0122222");
        heir.heir(2, 1);
        heir.mark(2, 3);
        begun(heir, "01");
        CHECKS.is("an heir of a hunter does not hunt as it gets that", heir.dawn(), 1);
        heir.vote(2, 2);
        heir.dusk();
        CHECKS.is("but as it dies", Villages.deaths(heir, 7), "-kxh---");
    }

    private static void deathAtDusk() {
        NightfallVillage village = of("w- v-h v- vs", "0112232");
        village.lovers(2, 3);
        village.mark(1, 2);
        village.heir(4, 3);
        village.heir(6, 1);
        begun(village);
        village.dawn();
        village.vote(1, 1);
        CHECKS.is("the exile alone is told", village.dusk(), 1);
        CHECKS.is("an exile leads to deaths", Villages.deaths(village, 7), "-xhl---");
        CHECKS.is("and to heirs", rolesOf(village, 7), "0112231");
        CHECKS.is("the next night begins", village.isNight(), true);
        CHECKS.is("with the next number", village.number(), 1);
    }

    // ---- days ----

    private static void votes() {
        NightfallVillage itself = Villages.night("K------");
        itself.dawn();
        Villages.vote(itself, "00", "11", "22", "33", "44", "55", "66");
        CHECKS.is("all for themselves", itself.votes(0) + itself.votes(6), 2);
        CHECKS.is("is nobody", itself.dusk(), -1);
        NightfallVillage all = Villages.night("K------");
        all.dawn();
        Villages.vote(all, "06", "16", "26", "36", "46", "56", "66");
        CHECKS.is("all for one", all.votes(6), 7);
        CHECKS.is("is that one", all.dusk(), 6);
        NightfallVillage weights = of("wk2 v-2 v-", "0122222");
        begun(weights);
        weights.dawn();
        Villages.vote(weights, "02", "23", "33");
        CHECKS.is("a weight of 2 against twice 1", weights.dusk(), -1);
        weights.dawn();
        Villages.vote(weights, "02", "12", "23", "33", "43");
        CHECKS.is("twice 2 against three", weights.dusk(), 2);
        NightfallVillage heir = of("wk v-2 v-", "0122222");
        heir.heir(2, 1);
        begun(heir, "01");
        heir.dawn();
        heir.vote(2, 3);
        CHECKS.is("an heir has the weight of its role", heir.votes(3), 2);
        heir.vote(1, 3);
        CHECKS.is("the dead have 1", heir.votes(3), 3);
        NightfallVillage moved = Villages.night("K------");
        moved.dawn();
        Villages.vote(moved, "12", "23", "33", "14");
        CHECKS.is("the last vote counts", moved.votes(2) + moved.votes(4), 1);
        CHECKS.is("and not the first", moved.dusk(), 3);
    }

    private static void ghosts() {
        NightfallVillage late = Villages.night("K------", "01");
        for (int day = 0; day < 4; day++) {
            Villages.day(late);
        }
        late.dawn();
        CHECKS.is("a ghost may wait", late.vote(1, 2), false);
        CHECKS.is("and change its mind", late.vote(1, 3), true);
        CHECKS.is("its last vote counts", late.dusk(), 3);
        late.dawn();
        CHECKS.is("on one day of the game alone", Checks.answer(() -> late.vote(1, 2)), UNSUPPORTED);
        late.dusk();
        late.dawn();
        CHECKS.is("and never again", Checks.answer(() -> late.vote(1, 2)), UNSUPPORTED);
        NightfallVillage alive = Villages.night("K------");
        alive.dawn();
        alive.vote(1, 1);
        CHECKS.is("one who voted on the day of its death", alive.dusk(), 1);
        CHECKS.is("has a ghost's vote", alive.hasGhostVote(1), true);
        alive.dawn();
        CHECKS.is("and uses it", alive.vote(1, 2), false);
        CHECKS.is("alone it exiles", alive.dusk(), 2);
        CHECKS.is("then it is gone", alive.hasGhostVote(1), false);
    }

    // ---- wins ----

    private static char atDawn(String sides, String... targets) {
        NightfallVillage village = new NightfallVillage();
        for (char side : sides.toCharArray()) {
            village.role(Character.toLowerCase(side), Character.isUpperCase(side) ? 'k' : '-', 1, false, false, false);
            village.seat(village.living('*'));
        }
        begun(village, targets);
        CHECKS.is("no win ahead of dawn", village.winner(), '-');
        village.dawn();
        return village.winner();
    }

    private static void wins() {
        String[] stands = {"vvv v", "vvvvvvv v", "www w", "wvv -", "wwv w", "wwvv w", "wwvvv -", "wlv -", "wwlv w",
            "wwlvv -", "lll -", "llv -", "lvv -", "wll -", "wwll w", "wwwvvvv -", "wwwwvvv w", "wwwlvvl -",
            "wwwlll w"};
        for (String stand : stands) {
            CHECKS.is("sides " + stand, atDawn(stand.substring(0, stand.indexOf(' '))), stand.charAt(stand.length() - 1));
        }
    }

    private static void winsByDeaths() {
        CHECKS.is("nobody", atDawn("LVW", "01", "12", "20"), 'n');
        CHECKS.is("nobody of the lone ones", atDawn("LLL", "01", "12", "20"), 'n');
        CHECKS.is("one lone one", atDawn("LWv", "01", "12"), 'l');
        CHECKS.is("a lone one and a wolf", atDawn("LvW", "01"), 'w');
        CHECKS.is("a lone one and a villager", atDawn("LvV", "01"), '-');
        CHECKS.is("two lone ones", atDawn("LLv", "02"), '-');
        CHECKS.is("one wolf", atDawn("WWv", "01", "12"), 'w');
        CHECKS.is("one villager", atDawn("VVl", "01", "12"), 'v');
        CHECKS.is("a wolf and a villager", atDawn("Wvv", "01"), 'w');
        NightfallVillage dusk = Villages.night("Kk-", "01");
        dusk.dawn();
        CHECKS.is("as many at dawn", dusk.winner(), 'w');
        NightfallVillage none = of("w-h v- v-", "012");
        none.mark(0, 1);
        none.lovers(1, 2);
        begun(none);
        none.dawn();
        none.vote(1, 0);
        none.dusk();
        CHECKS.is("nobody at dusk", none.winner(), 'n');
        CHECKS.is("nobody has won", none.score(0) + none.score(1) + none.score(2), 0);
    }

    // ---- what can be known ----

    private static void worldsOfTheDead() {
        NightfallVillage fool = of("wk vs vsf v- v-", "01234");
        fool.seems(2, 1);
        begun(fool, "02");
        CHECKS.is("a fool takes itself for a seer", fool.worlds(2), 48);
        fool.dawn();
        CHECKS.is("until it is dead", fool.worlds(2), 24);
        CHECKS.is("and known", fool.possible(2, 2, 2), 24);
        CHECKS.is("so the seer knows itself", fool.worlds(1), 6);
        NightfallVillage all = Villages.night("KKk", "01", "12", "20");
        all.dawn();
        CHECKS.is("all are dead", all.known(), 1);
        CHECKS.is("one world for each", all.meanWorlds(), 1.0);
        NightfallVillage got = of("wk v- v-", "0122222");
        got.heir(2, 3);
        begun(got, "03");
        got.dawn();
        CHECKS.is("an heir got the role that it had", rolesOf(got, 7), "0122222");
        CHECKS.is("and no dead one is known", got.known(), 42);
        NightfallVillage dusk = of("w- vs v-", "0122222");
        dusk.heir(2, 1);
        begun(dusk);
        dusk.dawn();
        CHECKS.is("nobody is dead", dusk.known(), 42);
        dusk.vote(0, 3);
        dusk.dusk();
        CHECKS.is("a dead one is known", dusk.known(), 30);
        dusk.dawn();
        dusk.vote(0, 1);
        dusk.dusk();
        CHECKS.is("an heir at dusk", dusk.roleOf(2), 1);
        CHECKS.is("then none is known, of earlier days neither", dusk.known(), 42);
    }

    private static void worldsOfSights() {
        NightfallVillage twice = Villages.night("Ks-----", "10");
        Villages.day(twice);
        twice.act(1, 0);
        twice.dawn();
        CHECKS.is("the same told twice", twice.worlds(1), 120);
        NightfallVillage first = Villages.night("Ksd----", "10", "21");
        Villages.day(first);
        CHECKS.is("told v of the wolf", first.told(1, 0), 'v');
        CHECKS.is("the wolf, if a drinker is there", first.possible(1, 0, 0), 120);
        first.act(1, 0);
        first.dawn();
        CHECKS.is("told both", first.told(1, 1), 'w');
        CHECKS.is("all who have a drinker beside them fit", first.worlds(1), 720);
        NightfallVillage mask = Villages.ofActs("Ksd----");
        mask.seems(2, 1);
        begun(mask, "10", "21");
        Villages.day(mask);
        CHECKS.is("the drinker itself, if that was told rightly", mask.possible(1, 1, 2), 600);
        mask.act(1, 0);
        mask.dawn();
        CHECKS.is("told both it is not", mask.possible(1, 1, 2), 0);
        CHECKS.is("but a seer", mask.worlds(1), 720);
        NightfallVillage none = Villages.night("Ks-----");
        none.dawn();
        CHECKS.is("nothing told", none.worlds(1), 720);
        NightfallVillage turned = Villages.night("Ksr----", "13", "21");
        turned.dawn();
        CHECKS.is("seen by turning", turned.seen(1, 0), 2);
        CHECKS.is("is no wolf", turned.possible(1, 2, 0), 0);
        CHECKS.is("not the one told", turned.possible(1, 3, 0), 120);
    }

    private static void claims() {
        NightfallVillage village = of("wk vs l- v-", "01233");
        begun(village, "10");
        village.dawn();
        CHECKS.is("the wolf is w", village.claim(2, 0, 'w'), 0);
        CHECKS.is("the wolf is v", village.claim(2, 0, 'v'), 1);
        CHECKS.is("another one is l", village.claim(0, 2, 'l'), 2);
        CHECKS.is("holds in all", village.holds(1, 0), 't');
        CHECKS.is("holds in none", village.holds(1, 1), 'f');
        CHECKS.is("holds in some", village.holds(1, 2), '?');
        CHECKS.is("of oneself", village.holds(2, 2), 't');
        CHECKS.is("liars for the seer", village.liars(1), 1);
        CHECKS.is("liars for one who knows nothing", village.liars(3), 0);
        village.vote(1, 2);
        village.dusk();
        CHECKS.is("a dead one has lied all the same", village.liars(1), 1);
        village.dawn();
        CHECKS.is("and lies as a dead one", village.claim(2, 3, 'l'), 3);
        CHECKS.is("as one liar", village.liars(1), 1);
    }

    // ---- histories ----

    private static void histories() {
        NightfallVillage seven = Villages.night("K------");
        CHECKS.is("all seven live at first", seven.alive(0, 6), 127);
        CHECKS.is("three", Villages.night("K--").alive(0, 2), 7);
        NightfallVillage none = Villages.night("KKk", "01", "12", "20");
        none.dawn();
        CHECKS.is("nobody in both", none.alive(0, 1), 0);
        CHECKS.is("n in both", none.changed(0, 2), 'n');
        NightfallVillage act = Villages.night("K-----", "01");
        act.dawn();
        CHECKS.is("one who has no act now", act.alive(0, 2), 63);
        CHECKS.is("another one has it", act.changed(0, 2), '-');
        NightfallVillage lone = of("lk w- v-", "012");
        begun(lone, "01");
        lone.dawn();
        CHECKS.is("v and l go on", lone.winner(), '-');
        lone.vote(0, 2);
        lone.dusk();
        CHECKS.is("the lone one wins", lone.winner(), 'l');
        CHECKS.is("in place of the wolf it would not", lone.changed(0, 1), 'w');
        CHECKS.is("as the wolf is then", lone.alive(0, 1), 3);
        CHECKS.is("nor in place of the villager", lone.changed(0, 2), 'w');
    }
}
