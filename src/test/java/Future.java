/** What a council answers as things go on, so that two of them can be compared, also in what cannot be asked for. */
final class Future {
    private final NightfallCouncil council;
    private final StringBuilder text = new StringBuilder();

    private Future(NightfallCouncil council) {
        this.council = council;
    }

    /** With acts and votes that are told for all seats, or with those that were told already. */
    static String of(NightfallCouncil council, boolean areTold) {
        Future future = new Future(council);
        future.look();
        for (int day = 0; day < 3; day++) {
            future.night(areTold);
            future.day(areTold);
        }
        future.ask("firstWrong");
        future.ask("mend");
        future.ask("claimRole", 0, 0, 0);
        future.look();
        future.ask("gather");
        future.setUp(areTold);
        return future.text.toString();
    }

    private void ask(String name, int... numbers) {
        text.append(Calls.answerByNumbers(council, name, numbers)).append(' ');
    }

    private void look() {
        text.append(Sight.of(council)).append('\n');
    }

    private void night(boolean areTold) {
        if (council.state() != 'n') {
            return;
        }
        int seats = Sight.seats(council);
        for (int seat = 0; areTold && seat < seats; seat++) {
            ask("act", seat, (seat + 2) % seats, (seat + 1) % seats);
        }
        ask("night");
        look();
    }

    private void day(boolean areTold) {
        if (council.state() != 'd') {
            return;
        }
        int seats = Sight.seats(council);
        for (int seat = 0; seat < seats; seat++) {
            ask("vote", seat);
        }
        ask("close");
        for (int seat = 0; areTold && seat < seats; seat++) {
            ask("nominate", seat, (seat + 3) % seats);
            ask("vote", seat / 2);
            ask("vote", seat);
        }
        for (int seat = 0; !areTold && seat < seats; seat++) {
            ask("veto", seat);
        }
        ask("dusk");
        look();
    }

    /** Looks at roles, the bag and the list by filling them up. */
    private void setUp(boolean isEmptied) {
        if (isEmptied) {
            ask("empty");
        }
        for (int role = 0; role < 10; role++) {
            ask("turnInto", role, 0);
            ask("list", role, 1);
            ask("list", role, 0);
            ask("bag", role);
        }
        ask("deal", 1, 1);
        ask("role", 'g', 's', 5, 'e');
        for (int role = 0; role < 10; role++) {
            ask("trait", role, '-');
            ask("register", role, 'e', 0);
            ask("list", role, 0);
        }
        ask("deal", 1, 1);
        look();
    }
}
