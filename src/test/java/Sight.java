import java.util.ArrayList;
import java.util.List;
import java.util.function.Supplier;

/** All that can be seen of a council, as one text. */
final class Sight {
    private Sight() {
    }

    static String of(NightfallCouncil x) {
        StringBuilder text = new StringBuilder();
        text.append(x.state()).append(x.roles()).append(' ').append(x.ways()).append(' ').append(x.isSound());
        for (int player = 0; player < 8; player++) {
            text.append(' ').append(x.rating(player, 'g')).append('/').append(x.rating(player, 'e'));
        }
        if (x.state() != '-') {
            game(x, text);
        }
        return text.toString();
    }

    private static void game(NightfallCouncil x, StringBuilder text) {
        text.append("\nnights ").append(x.nights()).append(" living ").append(x.living());
        int seats = seats(x);
        for (int seat = 0; seat < seats; seat++) {
            text.append("\nseat ").append(seat);
            for (char what : "cblpghw".toCharArray()) {
                text.append(' ').append(what).append(x.seat(seat, what));
            }
        }
        for (int telling = 0; telling < x.tellings(); telling++) {
            text.append("\ntelling ").append(x.actOf(telling));
            for (char what : "nstvf".toCharArray()) {
                text.append(' ').append(what).append(x.telling(telling, what));
            }
        }
        text.append("\nvoid ").append(x.voidNights()).append(" sum ").append(x.checksum());
        if (x.ways() <= 2000) {
            text.append("\nopen ").append(x.openWorlds()).append(" liars ").append(x.leastLiars());
            for (int seat = 0; seat < seats; seat++) {
                text.append(' ').append(x.worlds(seat)).append('/').append(x.claimed(seat));
            }
        }
    }

    /** The same thing of each seat. */
    static String row(NightfallCouncil x, char what) {
        List<Integer> row = new ArrayList<>();
        for (int seat = 0; seat < seats(x); seat++) {
            row.add(x.seat(seat, what));
        }
        return row.toString();
    }

    /** The same thing of each telling. */
    static String told(NightfallCouncil x, char what) {
        List<Integer> row = new ArrayList<>();
        for (int telling = 0; telling < x.tellings(); telling++) {
            row.add(x.telling(telling, what));
        }
        return row.toString();
    }

    /** The signs that a call with 0 and a sign takes; new councils are made, for one is used for 512 calls at most. */
    static String taken(Supplier<NightfallCouncil> maker, String call) {
        StringBuilder taken = new StringBuilder();
        NightfallCouncil x = null;
        for (int sign = 0; sign < 65536; sign++) {
            x = sign % 256 == 0 ? maker.get() : x;
            if (!(Calls.answer(x, call, 0, (char) sign) instanceof String)) {
                taken.append((char) sign);
            }
        }
        return taken.toString();
    }

    static int seats(NightfallCouncil x) {
        int seats = 0;
        while (seats < 8) {
            try {
                x.seat(seats, 'c');
            } catch (IndexOutOfBoundsException e) {
                return seats;
            }
            seats++;
        }
        return seats;
    }
}
