import java.util.Arrays;
import java.util.NoSuchElementException;

/** What 'Terms' says of how a night goes by: the order of acts, once in a game, crossings and the dawn. */
final class NightTerms {
    private static final Class<?> CANNOT = NoSuchElementException.class;

    private NightTerms() {
    }

    static void all() {
        whoTellsAnAct();
        secondUnlikeTheTarget();
        byOrdersThenSeats();
        byBeliefsAsTheNightBegins();
        whoToldATarget();
        onceInAGame();
        onceWithoutEffect();
        onceOfWhicheverRoles();
        notIfLeftOut();
        crossedInTurn();
        crossedByAllOthers();
        crossedForEachAct();
        crossingsOfThisNight();
        crossedToTheSecond();
        deathsAtDawn();
        bondedDeaths();
        turnedAtDawn();
        turnedByTheLast();
        turnedIntoDrunk();
        turningCards();
        winsAfterTurning();
        poisonOfTheNightBefore();
    }

    private static void whoTellsAnAct() {
        Doc.says("Each living seat can have told an act for the night: a target, another seat or itself, and for 'x', "
                + "'h' and 'w' a second, unlike one.");
        NightfallCouncil x = Table.game("gs5e", "ek9o", "gp5e", "g-0e", "g-0e");
        Due.is("another seat", x.act(0, 4, 0), true);
        Due.is("itself", x.act(2, 2, 0), true);
        Due.is("the last seat, at the first one", x.act(1, 0, 0), true);
        x.night();
        Due.is("seat 0 died", x.seat(0, 'l'), 0);
        x.dusk();
        Due.fails("a dead seat", x, CANNOT, () -> x.act(0, 1, 0));
        Due.is("a living seat at a dead one", x.act(2, 0, 0), true);
        Due.fails("a seat without an act", x, CANNOT, () -> x.act(3, 1, 0));
    }

    private static void secondUnlikeTheTarget() {
        for (char act : "xhw".toCharArray()) {
            NightfallCouncil x = Table.game("g" + act + "5e", "e-0e", "g-0e");
            for (int one = 0; one < 3; one++) {
                int both = one;
                Due.fails("the target twice for " + act, x, IllegalArgumentException.class,
                        () -> x.act(0, both, both));
                Due.is("another second for " + act, x.act(0, one, (one + 1) % 3), one == 0);
            }
        }
        for (char act : "bdpkcsl".toCharArray()) {
            NightfallCouncil x = Table.game("g" + act + "5e", "e-0e", "g-0e");
            Due.is("the target twice has no meaning for " + act, x.act(0, 1, 1), true);
            Due.is("nor has no seat", x.act(0, 1, -1), false);
            Due.is("nor has no seat above", x.act(0, 1, 3), false);
        }
    }

    private static void byOrdersThenSeats() {
        Doc.says("As the night goes by, acts are done by the orders of the roles in which the seats believe as it "
                + "begins, then by seats, whatever cards are changed meanwhile; of those that told a target, or have the "
                + "act 'n', which needs none.");
        NightfallCouncil x = Table.game("gs9e", "gl8e", "gs1e", "gs0e", "gl5e", "gs5e", "e-0e", "gs5e");
        for (int seat : new int[] {7, 5, 4, 3, 2, 1, 0}) {
            x.act(seat, 6, 0);
        }
        x.night();
        Due.is("from order 0 to 9, of one order by seats", Sight.told(x, 's'), "[3, 2, 4, 5, 7, 1, 0]");
    }

    private static void byBeliefsAsTheNightBegins() {
        NightfallCouncil x = Table.roles("gs1e", "gl2e", "g-0ed", "ew0o", "g-9e", "g-9e");
        Table.dealDrunk(x, true, true, new int[] {2, 1, 0, 3, 4, 5}, new int[] {1, 1, 0, 3, 4, 5});
        x.act(0, 4, 0);
        x.act(1, 4, 0);
        x.act(2, 4, 0);
        x.act(3, 0, 2);
        x.night();
        Due.is("the cards of 0 and 2 were changed first", Sight.row(x, 'c'), "[0, 1, 2, 3, 4, 5]");
        Due.is("by the orders of what they believed", Sight.told(x, 's'), "[2, 0, 1]");
        Due.is("the acts of what they believed", "" + x.actOf(0) + x.actOf(1) + x.actOf(2), "sll");
        x.dusk();
        x.act(0, 4, 0);
        x.act(2, 4, 0);
        x.night();
        Due.is("in the next night by what they believe then", "" + x.telling(3, 's') + x.actOf(3) + x.telling(4, 's')
                + x.actOf(4), "0s2l");
    }

    private static void whoToldATarget() {
        NightfallCouncil x = Table.game("gs5e", "gl5e", "gn5e", "ek5e", "g-0e");
        Due.is("nobody told a target", x.night(), 0);
        Due.is("'n' needs none", "" + x.tellings() + x.actOf(0), "1n");
        x.dusk();
        x.act(0, 4, 0);
        x.night();
        Due.is("who told one, and 'n'", Sight.told(x, 's'), "[2, 0, 2]");
        x.dusk();
        x.night();
        Due.is("a target of the night before is none", Sight.told(x, 's'), "[2, 0, 2, 2]");
    }

    private static void onceInAGame() {
        Doc.says("A seat does an act of a role with the way 'o' once in a game, of whichever roles it is, also if it has "
                + "no effect, but not if it was left out.");
        NightfallCouncil x = Table.game("gs5o", "gl5o", "gn5o", "gs5e", "gn5e", "e-0e", "g-0e");
        for (int night = 1; night <= 3; night++) {
            x.act(0, 5, 0);
            if (night >= 2) {
                x.act(1, 5, 0);
            }
            x.act(3, 5, 0);
            Table.pass(x);
        }
        Due.is("each once, the others each night", Sight.told(x, 's'), "[0, 2, 3, 4, 1, 3, 4, 3, 4]");
        x.gather();
        Table.list(x, true, true, Table.upTo(7), Table.upTo(7));
        x.act(0, 5, 0);
        x.act(1, 5, 0);
        x.night();
        Due.is("once in the next game again", Sight.told(x, 's'), "[0, 1, 2, 4]");
    }

    private static void onceWithoutEffect() {
        NightfallCouncil x = Table.game("gd0o", "gk1o", "g-0e", "g-0e", "g-0e", "e-0e");
        x.act(0, 1, 0);
        x.act(1, 2, 0);
        Due.is("a poisoned one has no effect", x.night(), 0);
        x.dusk();
        x.act(1, 2, 0);
        Due.is("and has done its act", x.night(), 0);
        NightfallCouncil y = Table.dealDrunk(Table.roles("g-0ed", "gk1o", "e-0e"), true, true,
                new int[] {0, 0, 1, 1, 2, 1}, new int[] {1, 1, 1, 1, 2, 1});
        NightfallCouncil z = Table.game("gs1o", "gd0o", "e-0e", "g-0e");
        z.act(0, 2, 0);
        z.act(1, 0, 0);
        Table.pass(z);
        z.act(0, 2, 0);
        z.night();
        Due.is("told what is not so, once", Sight.told(z, 'v'), "[0]");
        y.act(0, 3, 0);
        Due.is("a drunk one has no effect", y.night(), 0);
        y.dusk();
        y.act(2, 0, 0);
        y.act(1, 3, 0);
        Due.is("a seat has done nothing of what others did", y.night(), 1);
        NightfallCouncil w = Table.dealDrunk(Table.roles("g-0ed", "gk1o", "ew9e", "g-0e"), true, true,
                new int[] {0, 1, 2, 3, 3}, new int[] {1, 1, 2, 3, 3});
        w.act(0, 3, 0);
        w.act(2, 0, 1);
        Table.pass(w);
        Due.is("drunk no more", "" + w.seat(0, 'c') + w.seat(0, 'b'), "11");
        w.act(0, 3, 0);
        Due.is("what it did as a drunk one was its act", w.night(), 0);
    }

    private static void onceOfWhicheverRoles() {
        NightfallCouncil x = Table.roles("ew9e", "gs1o", "gl2o", "gk3o", "g-0e", "gs4e");
        Table.deal(x, true, true, 0, 1, 2, 3, 4, 5, 4);
        x.act(1, 0, 0);
        x.act(0, 1, 2);
        Table.pass(x);
        x.act(1, 0, 0);
        x.act(2, 0, 0);
        x.act(0, 1, 3);
        x.night();
        Due.is("seat 1 did one act, seat 2 does its first one", Sight.told(x, 's'), "[1, 2]");
        Due.is("the act of its new card", x.actOf(1), 's');
        x.dusk();
        x.act(1, 4, 0);
        x.act(0, 1, 5);
        Due.is("nor is a third one done", x.night(), 0);
        x.dusk();
        x.act(1, 0, 0);
        x.night();
        Due.is("one of each night is done", "" + x.tellings() + x.telling(2, 's') + x.actOf(2), "31s");
    }

    private static void notIfLeftOut() {
        NightfallCouncil x = Table.game("gb0e", "gs5o", "gn5o", "e-0e", "g-0e");
        for (int blocked : new int[] {1, 1, 2}) {
            x.act(0, blocked, 0);
            x.act(1, 3, 0);
            Table.pass(x);
        }
        Due.is("left out twice, done in the third night", Sight.told(x, 's'), "[2, 1]");
        Due.is("the nights", Sight.told(x, 'n'), "[1, 3]");
        NightfallCouncil y = Table.game("gb0e", "gs5o", "gn5o", "e-0e", "g-0e");
        y.act(0, 2, 0);
        Table.pass(y);
        Due.is("'n' is left out, too", y.tellings(), 0);
        Table.pass(y);
        Due.is("and done in the next night", Sight.told(y, 's'), "[2]");
    }

    private static void crossedInTurn() {
        Doc.says("A target is first crossed: as often as a crossing was done in this night, in turn, if the target is "
                + "one of both seats, it becomes the other one; if it is the second one then, nothing comes of 'h' and "
                + "'w'.");
        int[] due = {0, 1, 3, 2, 4};
        for (int target = 0; target < 5; target++) {
            Due.is("one crossing of 2 and 3", crossed(target, 2, 3), due[target]);
        }
        int[] twice = {0, 1, 2, 3, 4};
        for (int target = 0; target < 5; target++) {
            Due.is("crossed and crossed back", crossed(target, 2, 3, 3, 2), twice[target]);
        }
        int[] inTurn = {0, 1, 4, 2, 3};
        for (int target = 0; target < 5; target++) {
            Due.is("2 and 3, then 3 and 4", crossed(target, 2, 3, 3, 4), inTurn[target]);
        }
        int[] otherTurn = {0, 1, 3, 4, 2};
        for (int target = 0; target < 5; target++) {
            Due.is("3 and 4, then 2 and 3", crossed(target, 3, 4, 2, 3), otherTurn[target]);
        }
    }

    /** Whom seat 0's attack meets; seat 5, and seat 6 then, cross before. */
    private static int crossed(int target, int... pairs) {
        NightfallCouncil x = Table.game("gk5e", "g-0e", "g-0e", "g-0e", "g-0e", "gx1e", "gx2e", "e-0e");
        for (int i = 0; i + 1 < pairs.length; i += 2) {
            x.act(5 + i / 2, pairs[i], pairs[i + 1]);
        }
        x.act(0, target, 0);
        x.night();
        int met = 0;
        while (met < 8 && x.seat(met, 'l') == 1) {
            met++;
        }
        return met;
    }

    private static void crossedByAllOthers() {
        NightfallCouncil x = Table.deal(Table.roles("ek9e", "gx5e"), true, true, 0, 1, 1, 1, 1, 1, 1, 1);
        for (int seat = 1; seat < 8; seat++) {
            x.act(seat, seat - 1, seat);
        }
        x.act(0, 0, 0);
        x.night();
        Due.is("seven crossings, from 0 to 7", Sight.row(x, 'l'), "[1, 1, 1, 1, 1, 1, 1, 0]");
        NightfallCouncil y = Table.deal(Table.roles("ek9e", "gx5e"), true, true, 1, 1, 1, 1, 1, 1, 1, 0);
        for (int seat = 0; seat < 7; seat++) {
            y.act(seat, 7 - seat, 6 - seat);
        }
        y.act(7, 1, 0);
        y.night();
        Due.is("the sixth one alone moves 1", Sight.row(y, 'l'), "[1, 1, 0, 1, 1, 1, 1, 1]");
        NightfallCouncil all = Table.deal(Table.roles("gx5e"), true, true, new int[8]);
        for (int seat = 0; seat < 8; seat++) {
            all.act(seat, seat, (seat + 1) % 8);
        }
        Due.is("eight crossings", all.night(), 0);
    }

    private static void crossedForEachAct() {
        NightfallCouncil blocked = crossed("gb1e");
        Due.is("4 is blocked, not 3", Sight.told(blocked, 's'), "[3]");
        NightfallCouncil poisoned = crossed("gd1e");
        Due.is("4 is poisoned, not 3", Sight.row(poisoned, 'p'), "[0, 0, 0, 0, 1]");
        NightfallCouncil turned = crossed("gc1e");
        Due.is("4 is turned, not 3", Sight.row(turned, 'c'), "[0, 1, 2, 3, 2]");
        NightfallCouncil attacked = crossed("gk1e");
        Due.is("4 is attacked, not 3", Sight.row(attacked, 'l'), "[1, 1, 1, 1, 0]");
        NightfallCouncil bonded = crossed("gh1e");
        Due.is("4 is bonded, not 3", Sight.row(bonded, 'h'), "[4, -1, -1, -1, 0]");
        NightfallCouncil changed = crossed("gw1e");
        Due.is("4 has another card, not 3", Sight.row(changed, 'c'), "[4, 1, 2, 3, 0]");
        NightfallCouncil side = crossed("gs1e");
        Due.is("4 is looked at, and 3 was told", Sight.told(side, 'v') + Sight.told(side, 't'), "[1, 1, 1][3, 0, 0]");
        NightfallCouncil role = crossed("gl1e");
        Due.is("the role of 4", Sight.told(role, 'v'), "[4, 1, 1]");
        NightfallCouncil both = Table.game("ek9e", "gx0e", "gp1e", "g-0e", "g-0e");
        both.act(0, 3, 0);
        both.act(1, 3, 4);
        both.act(2, 3, 0);
        Due.is("4 is protected, who is attacked", both.night(), 0);
        NightfallCouncil one = Table.game("ek0e", "gx1e", "gp2e", "g-0e", "g-0e");
        one.act(0, 3, 0);
        one.act(1, 3, 4);
        one.act(2, 4, 0);
        Due.is("3 is protected, who was attacked ahead of the crossing", one.night(), 0);
    }

    /** Seat 2 does the act to 3, with 0 as the second one, when seat 1 has crossed 3 and 4, who then look at 0. */
    private static NightfallCouncil crossed(String role) {
        NightfallCouncil x = Table.roles("e-0e", "gx0e", role, "gs5e", "es5e");
        Table.deal(x, true, true, 0, 1, 2, 3, 4);
        x.act(1, 3, 4);
        x.act(2, 3, 0);
        x.act(3, 0, 0);
        x.act(4, 0, 0);
        x.night();
        return x;
    }

    private static void crossingsOfThisNight() {
        NightfallCouncil x = Table.game("gs3e", "gl5e", "gx4e", "e-0e", "g-0e", "gx4e", "gd0e");
        x.act(0, 3, 0);
        x.act(1, 3, 0);
        x.act(2, 3, 4);
        x.night();
        Due.is("one that is done later crosses nothing", x.telling(0, 'v'), 1);
        Due.is("one that was done does", x.telling(1, 'v'), 4);
        x.dusk();
        x.act(0, 3, 0);
        x.act(1, 3, 0);
        x.night();
        Due.is("it is gone in the next night", Sight.told(x, 'v'), "[1, 4, 1, 3]");
        x.dusk();
        x.act(6, 2, 0);
        x.act(2, 3, 4);
        x.act(1, 3, 0);
        x.night();
        Due.is("a poisoned one crosses nothing", x.telling(4, 'v'), 3);
    }

    private static void crossedToTheSecond() {
        NightfallCouncil x = Table.game("gx1e", "gh2e", "ew3e", "g-0e", "g-0e", "gs9e");
        x.act(0, 3, 4);
        x.act(1, 3, 4);
        x.act(2, 4, 3);
        x.night();
        Due.is("no bond", Sight.row(x, 'h'), "[-1, -1, -1, -1, -1, -1]");
        Due.is("no change", Sight.row(x, 'c'), "[0, 1, 2, 3, 4, 5]");
        x.dusk();
        x.act(0, 3, 5);
        x.act(1, 3, 4);
        x.act(2, 4, 3);
        x.night();
        Due.is("the target is 5 then, and bonded", Sight.row(x, 'h'), "[-1, -1, -1, -1, 5, 4]");
        Due.is("the second one is not crossed", Sight.row(x, 'c'), "[0, 1, 2, 4, 3, 5]");
        NightfallCouncil y = Table.game("gx1e", "ew2e", "gk3e", "g-0e", "g-0e", "gh2e");
        y.act(0, 3, 4);
        y.act(1, 3, 4);
        y.act(2, 0, 0);
        y.act(5, 4, 3);
        y.night();
        Due.is("no card was changed, so a dead one's is shown for worlds", y.openWorlds(), 120);
    }

    private static void deathsAtDawn() {
        Doc.says("At dawn those attacked and not protected die, by seats; who is bonded to one who dies dies, too.");
        for (int attacks = 0; attacks < 4; attacks++) {
            for (int protections = 0; protections < 4; protections++) {
                Due.is("attacks " + attacks + ", protections " + protections, deaths(attacks, protections),
                        Integer.bitCount(attacks & ~protections));
            }
        }
        NightfallCouncil x = Table.game("ek1e", "gs9e", "gk1e", "g-0e", "g-0e");
        x.act(0, 1, 0);
        x.act(1, 0, 0);
        x.act(2, 1, 0);
        Due.is("attacked twice, dead once", x.night(), 1);
        Due.is("an attacked one lives up to dawn", Sight.told(x, 's'), "[1]");
    }

    /** How many of the seats 4 and 5 die; a bit tells which of them is attacked, or protected. */
    private static int deaths(int attacks, int protections) {
        NightfallCouncil x = Table.game("ek5e", "gk5e", "gp4e", "gp6e", "g-0e", "g-0e", "g-0e", "g-0e");
        for (int seat = 0; seat < 2; seat++) {
            if ((attacks >> seat & 1) == 1) {
                x.act(seat, 4 + seat, 0);
            }
            if ((protections >> seat & 1) == 1) {
                x.act(2 + seat, 4 + seat, 0);
            }
        }
        int died = x.night();
        Due.is("who lives", (1 - x.seat(4, 'l')) + 2 * (1 - x.seat(5, 'l')), attacks & ~protections);
        return died;
    }

    private static void bondedDeaths() {
        for (int seat = 2; seat <= 3; seat++) {
            for (boolean isProtected : new boolean[] {false, true}) {
                NightfallCouncil x = Table.game("gh0e", "ek5e", "g-0e", "g-0e", "gp5e", "g-0e", "g-0e", "g-0e");
                x.act(0, 2, 3);
                x.act(1, seat, 0);
                if (isProtected) {
                    x.act(4, 5 - seat, 0);
                }
                Due.is("who is bonded to " + seat + " dies, too", x.night(), 2);
                Due.is("both", Sight.row(x, 'l'), "[1, 1, 0, 0, 1, 1, 1, 1]");
            }
        }
        NightfallCouncil y = Table.game("gh0e", "ek5e", "g-0e", "g-0e", "gp5e", "g-0e", "g-0e", "g-0e");
        y.act(0, 2, 3);
        y.act(1, 2, 0);
        y.act(4, 2, 0);
        Due.is("neither if the attacked one is protected", y.night(), 0);
        NightfallCouncil z = Table.game("gh0e", "ek5e", "gk5e", "g-0e", "g-0e", "g-0e", "g-0e", "g-0e");
        z.act(0, 3, 4);
        z.act(1, 3, 0);
        z.act(2, 4, 0);
        Due.is("two that are attacked and bonded die once each", z.night(), 2);
        NightfallCouncil late = Table.game("gh9e", "ek5e", "g-0e", "g-0e", "g-0e", "g-0e");
        late.act(0, 2, 3);
        late.act(1, 2, 0);
        Due.is("bonded after the attack, but ahead of dawn", late.night(), 2);
    }

    private static void turnedAtDawn() {
        Doc.says("Those who were turned, by several the last one, are alive and not protected get the role to which the "
                + "role of the card that turned them turns, as a card, and believe in it, unless it is drunk, then in "
                + "what they believed.");
        for (int mode = 0; mode < 4; mode++) {
            NightfallCouncil x = Table.roles("ec5e", "ek5e", "gp6e", "gs9e", "g-0e", "gl9e");
            x.turnInto(0, 5);
            Table.deal(x, true, true, 0, 1, 2, 3, 4, 4, 4, 4);
            x.act(0, 3, 0);
            x.act(3, 3, 0);
            if ((mode & 1) == 1) {
                x.act(1, 3, 0);
            }
            if ((mode & 2) == 2) {
                x.act(2, 3, 0);
            }
            x.night();
            int due = mode == 0 ? 5 : 3;
            Due.is("turned if alive and not protected, mode " + mode, x.seat(3, 'c'), due);
            Due.is("believing in it, mode " + mode, x.seat(3, 'b'), due);
            Due.is("not turned up to dawn", "" + x.actOf(0) + x.telling(0, 'v'), "s0");
        }
        NightfallCouncil y = Table.game("ec5e", "g-0e", "g-0e", "g-0e");
        y.act(0, 0, 0);
        y.night();
        Due.is("who turns itself", "" + y.seat(0, 'c') + y.state(), "0d");
    }

    private static void turnedByTheLast() {
        for (int order = 4; order <= 6; order++) {
            NightfallCouncil x = Table.roles("gc" + order + "e", "gc5e", "e-0e", "g-0e", "g-0e", "g-0e");
            x.turnInto(0, 4);
            x.turnInto(1, 5);
            Table.deal(x, true, true, 0, 1, 2, 3, 3);
            x.act(0, 3, 0);
            x.act(1, 3, 0);
            x.night();
            Due.is("the last one by orders, then by seats, " + order, x.seat(3, 'c'), order == 6 ? 4 : 5);
        }
    }

    private static void turnedIntoDrunk() {
        NightfallCouncil x = Table.roles("ec5e", "g-0ed", "gs6e", "g-0e", "g-0ed");
        x.turnInto(0, 1);
        Table.dealDrunk(x, true, true, new int[] {0, 2, 4, 3, 3}, new int[] {0, 2, 3, 3, 3});
        x.act(0, 1, 0);
        x.act(1, 0, 0);
        x.night();
        Due.is("a drunk card, believing as before", "" + x.seat(1, 'c') + x.seat(1, 'b'), "12");
        x.dusk();
        x.act(1, 0, 0);
        x.act(0, 2, 0);
        x.night();
        Due.is("sober, then drunk", Sight.told(x, 'v'), "[1, 0]");
        Due.is("from drunk to drunk, believing as before", "" + x.seat(2, 'c') + x.seat(2, 'b'), "13");
        NightfallCouncil y = Table.roles("ec5e", "g-0ed", "gs6e", "g-0e");
        y.turnInto(0, 3);
        Table.dealDrunk(y, true, true, new int[] {0, 1, 3, 3}, new int[] {0, 2, 3, 3});
        y.act(0, 1, 0);
        y.night();
        Due.is("from drunk to sober, believing in it", "" + y.seat(1, 'c') + y.seat(1, 'b'), "33");
    }

    private static void turningCards() {
        NightfallCouncil x = Table.roles("gc4e", "ew3e", "g-0e", "gs6e", "gn6e");
        x.turnInto(0, 3);
        x.turnInto(2, 4);
        Table.deal(x, true, true, 0, 1, 2, 2, 2, 2, 2);
        x.act(1, 0, 2);
        x.act(0, 5, 0);
        x.night();
        Due.is("the card that turned was changed before", x.seat(5, 'c'), 4);
        NightfallCouncil y = Table.roles("gc4e", "ew5e", "g-0e", "gs6e", "gn6e");
        y.turnInto(0, 3);
        y.turnInto(2, 4);
        Table.deal(y, true, true, 0, 1, 2, 2, 2, 2, 2);
        y.act(1, 0, 2);
        y.act(0, 5, 0);
        y.night();
        Due.is("the card that turned was changed afterwards", y.seat(5, 'c'), 3);
    }

    private static void winsAfterTurning() {
        Doc.says("Then wins are looked at, and a day begins.");
        for (int evil = 0; evil <= 3; evil++) {
            int[] cards = new int[6];
            Arrays.fill(cards, 0, evil, 1);
            NightfallCouncil x = Table.deal(Table.roles("g-0e", "e-0e"), true, true, cards);
            x.night();
            Due.is("evil ones of six: " + evil, x.state(), evil == 0 ? 'g' : evil == 3 ? 'e' : 'd');
        }
        NightfallCouncil y = Table.roles("gc5e", "e-0e", "g-0e");
        y.turnInto(0, 2);
        Table.deal(y, true, true, 0, 1, 2);
        y.act(0, 1, 0);
        y.night();
        Due.is("the last evil one was turned", y.state(), 'g');
        NightfallCouncil z = Table.roles("ec5e", "g-0e", "g-0e");
        Table.deal(z, true, true, 0, 1, 2, 2);
        z.act(0, 1, 0);
        z.night();
        Due.is("half of them are evil as one was turned", z.state(), 'e');
        NightfallCouncil w = Table.game("e-0e", "g-0e", "g-0e");
        w.night();
        Due.is("a day begins", Due.all(w::state, w::nights, () -> w.nominate(0, 1)).toString(), "[d, 1, 1]");
    }

    private static void poisonOfTheNightBefore() {
        Doc.says("Poison of the night before ends as a night begins.");
        NightfallCouncil x = Table.game("ed5e", "gs6e", "g-0e", "g-0e");
        x.act(0, 1, 0);
        x.act(1, 0, 0);
        Due.is("not yet poisoned", Sight.row(x, 'p'), "[0, 0, 0, 0]");
        x.night();
        Due.is("poisoned by day", Sight.row(x, 'p'), "[0, 1, 0, 0]");
        x.dusk();
        Due.is("not as the night has begun", Sight.row(x, 'p'), "[0, 0, 0, 0]");
        x.act(0, 2, 0);
        x.act(1, 0, 0);
        x.night();
        Due.is("another one is poisoned", Sight.row(x, 'p'), "[0, 0, 1, 0]");
        Due.is("told what is not so, then what is so", Sight.told(x, 'v'), "[0, 1]");
        x.dusk();
        x.act(0, 2, 0);
        x.night();
        Due.is("poisoned again", Sight.row(x, 'p'), "[0, 0, 1, 0]");
    }
}
