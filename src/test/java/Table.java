/** Makes councils for tests. */
final class Table {
    private Table() {
    }

    /** Roles by texts like "gs6e": side, act, order, way, and a trait behind them if there is one. */
    static NightfallCouncil roles(String... roles) {
        NightfallCouncil x = new NightfallCouncil();
        for (String role : roles) {
            int number = x.role(role.charAt(0), role.charAt(1), role.charAt(2) - '0', role.charAt(3));
            if (role.length() > 4) {
                x.trait(number, role.charAt(4));
            }
        }
        return x;
    }

    /** Puts these roles into the bag, and lists and deals them in this order. */
    static NightfallCouncil deal(NightfallCouncil x, boolean areShown, boolean isTwo, int... cards) {
        return dealDrunk(x, areShown, isTwo, cards, cards);
    }

    /** The same with what drunk ones believe in. */
    static NightfallCouncil dealDrunk(NightfallCouncil x, boolean areShown, boolean isTwo, int[] cards,
            int[] beliefs) {
        for (int card : cards) {
            x.bag(card);
        }
        return list(x, areShown, isTwo, cards, beliefs);
    }

    /** Lists and deals what is in the bag. */
    static NightfallCouncil list(NightfallCouncil x, boolean areShown, boolean isTwo, int[] cards, int[] beliefs) {
        for (int i = 0; i < cards.length; i++) {
            x.list(cards[i], beliefs[i]);
        }
        x.deal(areShown, isTwo);
        return x;
    }

    /** One seat for each role, in the order of the roles, without drunk ones. */
    static NightfallCouncil game(String... roles) {
        return believed(upTo(roles.length), roles);
    }

    /** One seat for each role; drunk ones believe in the role that stands at their place. */
    static NightfallCouncil believed(int[] beliefs, String... roles) {
        return dealDrunk(roles(roles), true, false, upTo(beliefs.length), beliefs);
    }

    static int[] upTo(int size) {
        int[] cards = new int[size];
        for (int i = 0; i < size; i++) {
            cards[i] = i;
        }
        return cards;
    }

    /** A day on which the first nominated one gets votes of these seats; answers who is executed. */
    static int execute(NightfallCouncil x, int by, int seat, int... voters) {
        x.nominate(by, seat);
        for (int voter : voters) {
            x.vote(voter);
        }
        return x.dusk();
    }

    /** A nomination with as many votes, of the first seats; answers who is to be executed then. */
    static int closed(NightfallCouncil x, int by, int seat, int votes) {
        x.nominate(by, seat);
        for (int voter = 0; voter < votes; voter++) {
            x.vote(voter);
        }
        return x.close();
    }

    /** A night and a day without a nomination. */
    static void pass(NightfallCouncil x) {
        x.night();
        x.dusk();
    }
}
