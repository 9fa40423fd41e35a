/** What 'Terms' says of worlds and claims. */
final class WorldTerms {
    private static final Class<?> MANY = UnsupportedOperationException.class;

    private WorldTerms() {
    }

    static void all() {
        asManyOfEachRole();
        shownWhileUnchanged();
        shownAheadOfTheTurned();
        ownCardAsBelievedAtFirst();
        orADrunkOne();
        licensedByADrunkCard();
        licensedByOthers();
        whatIsSo();
        neighboursThen();
        neighboursOfAllRings();
        atMost2000Ways();
        claimsOfRolesAndSides();
        claimsByOwnSides();
        liars();
    }

    private static void asManyOfEachRole() {
        Doc.says("A world is a card for each seat, as many of each role as the bag had.");
        int[][] bags = {{0, 0, 0}, {0, 0, 1}, {0, 1, 2}, {0, 0, 0, 0, 0, 0, 0, 0}, {0, 0, 0, 0, 0, 0, 0, 1},
            {0, 0, 0, 0, 1, 1, 1, 1}, {0, 0, 0, 1, 1, 1, 2, 2}, {0, 1, 2, 3, 4, 5}};
        int[] due = {1, 3, 6, 1, 8, 70, 560, 720};
        for (int i = 0; i < bags.length; i++) {
            NightfallCouncil x = Table.deal(Table.roles("g-0e", "e-0e", "g-0e", "g-0e", "g-0e", "g-0e", "g-0e"), true, true,
                    bags[i]);
            Due.is("worlds of the bag " + i, x.openWorlds(), due[i]);
            Due.is("ways of the bag " + i, x.ways(), due[i]);
            int amount = 0;
            for (int card : bags[i]) {
                amount += card == bags[i][0] ? 1 : 0;
            }
            Due.is("worlds of who has such a card", x.worlds(0), due[i] * amount / bags[i].length);
        }
        NightfallCouncil y = Table.roles("g-0e", "e-0e", "g-0e");
        Table.deal(y, true, true, 0, 0, 1);
        Due.is("no world has a role that the bag has not", y.chanceOf(0, 1, 2), 0);
    }

    private static void shownWhileUnchanged() {
        Doc.says("The open worlds have the shown card for each seat whose card was shown while no card had been changed or "
                + "turned; who dies of a night is shown ahead of who is turned by it.");
        NightfallCouncil x = Table.game("ek5e", "gw6o", "g-0e", "g-0e", "g-0e", "g-0e");
        x.act(0, 5, 0);
        x.night();
        Due.is("shown while none had been changed", x.openWorlds(), 120);
        x.dusk();
        x.act(1, 2, 3);
        x.act(0, 4, 0);
        x.night();
        Due.is("changed ahead of dawn, so not shown for worlds", x.openWorlds(), 120);
        Table.execute(x, 0, 2, 0, 1);
        Due.is("nor at dusk", "" + x.seat(2, 'l') + "/" + x.openWorlds(), "0/120");
    }

    private static void shownAheadOfTheTurned() {
        NightfallCouncil x = Table.roles("ek5e", "gc4e", "g-0e", "g-0e", "g-0e", "g-0e");
        x.turnInto(1, 2);
        Table.deal(x, true, true, 0, 1, 2, 3, 4, 5);
        x.act(0, 5, 0);
        x.act(1, 4, 0);
        x.night();
        Due.is("one died as one was turned", "" + x.seat(4, 'c') + "/" + x.openWorlds(), "2/120");
        x.dusk();
        x.act(0, 3, 0);
        x.night();
        Due.is("in the next night it was turned already", "" + x.seat(3, 'l') + "/" + x.openWorlds(), "0/120");
    }

    private static void ownCardAsBelievedAtFirst() {
        Doc.says("The worlds of a seat are those open ones in which its own card is that in which it believed at first, or a "
                + "drunk one, and in which each telling of it of a time when no card had been changed or turned is so, or "
                + "is licensed: if its own card is drunk, or another seat's card has the act 'd' or 'x'.");
        NightfallCouncil x = Table.game("ew5e", "gs4e", "g-0e", "g-0e", "g-0e");
        x.act(0, 1, 2);
        x.act(1, 0, 0);
        x.night();
        Due.is("it believes in another one now", x.seat(1, 'b'), 2);
        Due.is("its worlds have the one it believed at first", Due.all(() -> x.chanceOf(1, 1, 1),
                () -> x.chanceOf(1, 1, 2), () -> x.worlds(1), () -> x.worlds(2)).toString(), "[6, 0, 6, 24]");
        x.dusk();
        x.act(2, 3, 0);
        x.night();
        Due.is("what is told after a change does not count", "" + x.worlds(1) + "/" + x.worlds(2), "6/24");
        x.slip(0, 0);
        Due.is("what was told ahead of it does, as it is told", x.worlds(1), 18);
    }

    private static void orADrunkOne() {
        NightfallCouncil x = Table.believed(new int[] {0, 1, 1, 4, 4}, "e-0e", "g-0e", "g-0ed", "g-0ed", "g-0e");
        Due.is("sober, and two drunk ones", Due.all(() -> x.worlds(0), () -> x.chanceOf(0, 0, 0),
                () -> x.chanceOf(0, 0, 2), () -> x.chanceOf(0, 0, 3), () -> x.chanceOf(0, 0, 1)).toString(),
                "[72, 24, 24, 24, 0]");
        Due.is("a drunk one does not know", Due.all(() -> x.worlds(2), () -> x.chanceOf(2, 2, 1),
                () -> x.chanceOf(2, 2, 2), () -> x.chanceOf(2, 2, 3), () -> x.chanceOf(2, 2, 4)).toString(),
                "[72, 24, 24, 24, 0]");
        NightfallCouncil y = Table.roles("e-0e", "g-0e", "g-0ed", "gs5e");
        Table.dealDrunk(y, true, true, new int[] {0, 2, 2}, new int[] {0, 1, 3});
        Due.is("of a role that the bag has not", Due.all(() -> y.worlds(0), () -> y.worlds(1), () -> y.worlds(2))
                .toString(), "[3, 2, 2]");
    }

    private static void licensedByADrunkCard() {
        NightfallCouncil x = Table.believed(new int[] {0, 1, 1, 3}, "e-0e", "gs5e", "g-0ed", "g-0e");
        x.act(1, 0, 0);
        x.act(2, 0, 0);
        x.night();
        Due.is("so with its own card, anything with a drunk one", Due.all(() -> x.worlds(1), () -> x.chanceOf(1, 1, 1),
                () -> x.chanceOf(1, 1, 2)).toString(), "[8, 2, 6]");
        Due.is("told what is not so", Due.all(() -> x.worlds(2), () -> x.chanceOf(2, 2, 1), () -> x.chanceOf(2, 2, 2))
                .toString(), "[10, 4, 6]");
        Due.is("a drunk card of another seat licenses nothing", x.chanceOf(1, 3, 2), 1);
    }

    private static void licensedByOthers() {
        for (char act : "-bxdpkchwsln".toCharArray()) {
            NightfallCouncil x = Table.roles("gs5e", "e-0e", "g" + act + "9e", "g-0e");
            Table.deal(x, true, true, 0, 1, 2, 3);
            x.act(0, 3, 0);
            x.night();
            Due.is("another card with the act " + act, x.worlds(0), act == 'd' || act == 'x' ? 6 : 4);
        }
        NightfallCouncil y = Table.roles("gs5e", "e-0e", "gd9e", "gx9e", "g-0e");
        Table.deal(y, true, true, 0, 1, 4, 4);
        y.act(0, 1, 0);
        y.night();
        Due.is("cards that the bag has not", y.worlds(0), 1);
        for (char act : "dx".toCharArray()) {
            NightfallCouncil u = Table.roles("g" + act + "9e", "gs5e", "e-0e", "g-0e");
            Table.deal(u, true, true, 1, 2, 3, 3);
            u.act(0, 1, 0);
            u.night();
            Due.is("a first role with the act " + act + " that the bag has not", u.worlds(0), 1);
        }
        NightfallCouncil z = Table.roles("gs5e", "e-0e", "gd9ed", "g-0e");
        Table.dealDrunk(z, true, true, new int[] {0, 1, 2, 3}, new int[] {0, 1, 3, 3});
        z.act(0, 1, 0);
        z.night();
        Due.is("a drunk card with the act 'd'", z.chanceOf(0, 0, 0), 6);
        NightfallCouncil w = Table.roles("gd5e", "e-0e", "gs9e", "g-0e");
        Table.deal(w, true, true, 0, 1, 2, 3);
        w.act(0, 2, 0);
        w.act(2, 1, 0);
        w.night();
        Due.is("a poisoned one is licensed by the card of another one", "" + w.telling(0, 'v') + w.worlds(2)
                + w.isSound(), "06true");
    }

    private static void whatIsSo() {
        Doc.says("A telling 's' or 'l' is so if the card of the target registers as told; 'n' is so if of the seats that "
                + "were its living neighbours then as many register as evil.");
        NightfallCouncil x = Table.roles("gs5e", "gl5e", "e-0e", "g-0e", "g-0e");
        x.register(2, 'g', 3);
        x.register(3, 'e', 3);
        Table.deal(x, true, true, 0, 1, 2, 3, 4);
        x.act(0, 3, 0);
        x.act(1, 3, 0);
        x.night();
        Due.is("the side as which it registers", Due.all(() -> x.telling(0, 'v'), () -> x.worlds(0),
                () -> x.chanceOf(0, 3, 3), () -> x.knows(0, 3)).toString(), "[1, 6, 6, g]");
        Due.is("the role as which it registers, of two roles", Due.all(() -> x.telling(1, 'v'), () -> x.worlds(1),
                () -> x.chanceOf(1, 3, 3), () -> x.chanceOf(1, 3, 2), () -> x.knows(1, 3)).toString(), "[3, 12, 6, 6, -]");
        x.slip(0, 2);
        x.slip(1, 9);
        Due.is("a number that no card registers as", "" + x.worlds(0) + x.worlds(1), "00");
        x.slip(1, 2);
        Due.is("a role as which none registers", x.worlds(1), 0);
        x.slip(0, 0);
        Due.is("the other side", x.worlds(0), 18);
    }

    private static void neighboursThen() {
        NightfallCouncil x = Table.roles("gn5e", "ek6e", "g-0e", "g-0e");
        x.register(3, 'e', 3);
        Table.deal(x, false, true, 0, 2, 2, 1, 3);
        x.act(3, 4, 0);
        x.night();
        Due.is("one neighbour, of those then", Due.all(() -> x.telling(0, 'v'), () -> x.worlds(0)).toString(), "[1, 8]");
        x.dusk();
        x.night();
        Due.is("one of the neighbours now, too", Due.all(() -> x.telling(1, 'v'), () -> x.worlds(0),
                () -> x.chanceOf(0, 3, 1)).toString(), "[1, 4, 1]");
        for (int number = 0; number <= 3; number++) {
            x.slip(0, number);
            x.slip(1, 1);
            Due.is("with the number " + number, x.worlds(0), new int[] {2, 4, 2, 0}[number]);
        }
    }

    /** One evil seat kills the other ones; seats that are told of it know who sat next to them each time. */
    private static void neighboursOfAllRings() {
        for (int size = 4; size <= 8; size++) {
            for (int own = 0; own < size; own++) {
                for (int evil = 0; evil < size; evil++) {
                    if (own != evil) {
                        neighboursOfRing(size, own, evil);
                    }
                }
            }
        }
    }

    private static void neighboursOfRing(int size, int own, int evil) {
        int[] cards = new int[size];
        cards[own] = 1;
        cards[evil] = 2;
        NightfallCouncil x = Table.deal(Table.roles("g-0e", "gn1e", "ek2e"), false, true, cards);
        boolean[] canBeEvil = new boolean[size];
        java.util.Arrays.fill(canBeEvil, true);
        canBeEvil[own] = false;
        for (int night = 0; x.state() == 'n'; night++) {
            int left = nextLiving(x, own, size - 1, size);
            int right = nextLiving(x, own, 1, size);
            int told = (left == evil ? 1 : 0) + (right == evil ? 1 : 0);
            x.act(evil, victim(x, own, evil, size), 0);
            x.night();
            Due.is("told in a ring of " + size, x.telling(night, 'v'), told);
            for (int other = 0; other < size; other++) {
                canBeEvil[other] &= told == (other == left || other == right ? 1 : 0);
                Due.is("seat " + other + " of " + size + " can be evil for " + own, x.evilChance(own, other),
                        canBeEvil[other] ? 1 : 0);
            }
            if (x.state() == 'd') {
                x.dusk();
            }
        }
    }

    private static int nextLiving(NightfallCouncil x, int seat, int step, int size) {
        int next = (seat + step) % size;
        while (x.seat(next, 'l') == 0) {
            next = (next + step) % size;
        }
        return next;
    }

    /** The last living seat but these two. */
    private static int victim(NightfallCouncil x, int own, int evil, int size) {
        int victim = size - 1;
        while (victim == own || victim == evil || x.seat(victim, 'l') == 0) {
            victim--;
        }
        return victim;
    }

    private static void atMost2000Ways() {
        Doc.says("All are counted for at most 2000 ways to deal the bag.");
        int[] few = {0, 0, 0, 0, 1, 2, 3, 4};
        NightfallCouncil x = Table.deal(Table.roles("g-0e", "e-0e", "g-0e", "g-0e", "g-0e"), true, true, few);
        Due.is("no bag has more ways, up to 2000", x.ways(), 1680L);
        Due.is("all are counted", Due.all(x::openWorlds, () -> x.worlds(0), () -> x.worlds(7), x::meanWorlds,
                () -> x.chanceOf(0, 7, 4), () -> x.evilChance(0, 7), () -> x.claimed(0), () -> x.bluff(0)).toString(),
                "[1680, 840, 210, 525.0, 120, 120, 1680, 0]");
        int[] many = {0, 0, 1, 1, 2, 2, 3, 3};
        NightfallCouncil y = Table.deal(Table.roles("g-0e", "e-0e", "g-0e", "g-0e"), true, true, many);
        Due.is("no bag has fewer ways, above 2000", y.ways(), 2520L);
        Due.fails("none are counted", y, MANY, y::openWorlds);
        Due.fails("nor those of a seat", y, MANY, () -> y.worlds(0));
        NightfallCouncil z = Table.deal(Table.roles("g-0e", "e-0e", "g-0e", "g-0e", "g-0e", "g-0e"), true, true,
                0, 0, 1, 2, 3, 4, 5);
        Due.is("of seven seats", z.ways(), 2520L);
        Due.fails("none are counted", z, MANY, z::openWorlds);
        Due.is("the game goes on", "" + z.night() + z.dusk() + z.isSound(), "0-1true");
    }

    private static void claimsOfRolesAndSides() {
        Doc.says("A claim says of a seat that it has a role, or a side.");
        NightfallCouncil x = Table.game("e-0e", "g-0e", "g-0e", "g-0e");
        x.claimRole(0, 1, 0);
        Due.is("a role", x.claimed(0), 6);
        x.claimSide(1, 2, 'g');
        Due.is("a side", x.claimed(1), 18);
        x.claimSide(2, 3, 'e');
        Due.is("the other side", x.claimed(2), 6);
        x.claimRole(3, 3, 3);
        Due.is("of oneself", x.claimed(3), 6);
        x.claimRole(3, 0, 0);
        Due.is("all claims of a seat", x.claimed(3), 2);
        x.claimRole(3, 1, 0);
        Due.is("that cannot all be so", x.claimed(3), 0);
        NightfallCouncil y = Table.game("e-0e", "g-0e", "g-0e", "g-0e");
        for (int claim = 1; claim <= 40; claim++) {
            Due.is("claims", y.claimRole(0, 0, claim == 40 ? 0 : 1), claim);
        }
        Due.is("the 40th counts", y.claimed(0), 0);
        Due.fails("a 41st", y, IllegalStateException.class, () -> y.claimRole(1, 0, 0));
    }

    private static void claimsByOwnSides() {
        Doc.says("A claim of a side is so by the card's own side.");
        NightfallCouncil x = Table.roles("e-0e", "g-0e", "g-0e");
        x.register(0, 'g', 1);
        x.register(1, 'e', 0);
        Table.deal(x, true, true, 0, 1, 2);
        x.claimSide(0, 0, 'e');
        x.claimSide(1, 0, 'g');
        Due.is("evil, whatever it registers as", x.claimed(0), 2);
        Due.is("good, whatever it registers as", x.claimed(1), 4);
        x.claimRole(2, 0, 1);
        Due.is("a role, by the card", x.claimed(2), 2);
    }

    private static void liars() {
        Doc.says("The liars of a world are the seats that claim something that is not so there.");
        NightfallCouncil x = Table.game("e-0e", "g-0e", "g-0e");
        Due.is("nobody claims", x.leastLiars(), 0);
        x.claimRole(0, 0, 0);
        x.claimRole(1, 1, 1);
        x.claimRole(2, 2, 2);
        Due.is("all can be so", x.leastLiars(), 0);
        x.claimRole(0, 1, 2);
        Due.is("one of four claims", x.leastLiars(), 1);
        x.claimRole(0, 2, 0);
        Due.is("a seat is one liar, with all it claims", x.leastLiars(), 1);
        x.claimRole(1, 2, 1);
        Due.is("two of three", x.leastLiars(), 2);
        x.claimRole(2, 0, 0);
        x.claimRole(2, 0, 1);
        Due.is("all of them, in every world", x.leastLiars(), 3);
        NightfallCouncil y = Table.deal(Table.roles("g-0e", "e-0e"), true, true, 0, 0, 0, 0, 0, 0, 0, 1);
        for (int seat = 0; seat < 8; seat++) {
            y.claimSide(seat, seat, 'g');
            y.claimSide(seat, seat, 'e');
        }
        Due.is("all eight", y.leastLiars(), 8);
    }
}
