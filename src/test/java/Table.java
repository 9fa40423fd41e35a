/** Makes councils for tests. */
final class Table {
    private Table() {
    }

    /** Roles by texts like "gs6e": side, act, order, way, and a trait behind them if there is one. */
    static NightfallCouncil roles(String... roles) {
        NightfallCouncil x = new NightfallCouncil();
        for (String role : roles) {
            int number = x.role(role.charAt(0), role.charAt(1), role.charAt(2) - '0', role.charAt(3));
            if (role.length() > 4) {
                x.trait(number, role.charAt(4));
            }
        }
        return x;
    }

    /** Puts these roles into the bag, and lists and deals them in this order. */
    static NightfallCouncil deal(NightfallCouncil x, boolean areShown, boolean isTwo, int... cards) {
        for (int card : cards) {
            x.bag(card);
        }
        for (int card : cards) {
            x.list(card, card);
        }
        x.deal(areShown, isTwo);
        return x;
    }

    /** One seat for each role, in the order of the roles, without drunk ones. */
    static NightfallCouncil game(String... roles) {
        int[] cards = new int[roles.length];
        for (int i = 0; i < cards.length; i++) {
            cards[i] = i;
        }
        return deal(roles(roles), true, false, cards);
    }

    /** A day on which the first nominated one gets votes of these seats; answers who is executed. */
    static int execute(NightfallCouncil x, int by, int seat, int... voters) {
        x.nominate(by, seat);
        for (int voter : voters) {
            x.vote(voter);
        }
        return x.dusk();
    }
}
