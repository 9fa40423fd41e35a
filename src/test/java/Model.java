import java.util.ArrayList;
import java.util.Arrays;
import java.util.Collections;
import java.util.Comparator;
import java.util.List;
import java.util.NoSuchElementException;
import java.util.TreeSet;

/** The document once more, written as plainly as it goes, with no thought of speed or room. */
final class Model {
    /** A role as it is told. */
    static final class Role {
        char side;
        char act;
        int order;
        char way;
        char seenSide;
        int seenAs;
        char trait = '-';
        int into;
    }

    /** A seat of a game. */
    static final class Seat {
        int at;
        int card;
        int belief;
        int dealt;
        int firstBelief;
        int player;
        Seat bond;
        boolean isAlive = true;
        boolean isPoisoned;
        boolean hasGhost = true;
        boolean didOnce;
        boolean didVeto;
        Integer shown;
        int[] told;
        boolean isBlocked;
        boolean isProtected;
        boolean isAttacked;
        Integer turn;
    }

    /** A telling; around are the living neighbours of the one who is told. */
    static final class Telling {
        int night;
        int seat;
        char act;
        int target;
        int number;
        int due;
        boolean isSober;
        boolean isOfDealt;
        List<Integer> around = new ArrayList<>();
    }

    record Claim(int by, int of, int role, char side) {
    }

    record Vote(int seat, int votes) {
    }

    record Deed(int order, Seat seat, Role role) {
    }

    private final List<Role> roles = new ArrayList<>();
    private final List<Integer> bag = new ArrayList<>();
    private final List<int[]> listed = new ArrayList<>();
    private final int[][] ratings = new int[8][2];
    private char state = '-';
    private List<Seat> seats = new ArrayList<>();
    private List<Telling> tellings = new ArrayList<>();
    private List<Claim> claims = new ArrayList<>();
    private int night;
    private boolean areShown;
    private boolean isTwo;
    private boolean isChanged;
    private List<int[]> crossed = new ArrayList<>();
    private TreeSet<Integer> nominators = new TreeSet<>();
    private List<Integer> nominated = new ArrayList<>();
    private List<Vote> counted = new ArrayList<>();
    private TreeSet<Integer> voters = new TreeSet<>();
    private Integer open;
    private boolean isVetoed;

    Model() {
        for (int[] rating : ratings) {
            Arrays.fill(rating, 1000);
        }
    }

    int role(char side, char act, int order, char way) {
        isRight("ge".indexOf(side) >= 0 && "-bxdpkchwsln".indexOf(act) >= 0 && "eo".indexOf(way) >= 0);
        isRight(order >= 0 && order <= 9);
        isState(roles.size() < 10 && state == '-');
        Role role = new Role();
        role.side = side;
        role.act = act;
        role.order = order;
        role.way = way;
        role.seenSide = side;
        role.seenAs = roles.size();
        role.into = roles.size();
        roles.add(role);
        return roles.size() - 1;
    }

    int register(int role, char side, int as) {
        isThere(isRole(role) && isRole(as));
        isRight("ge".indexOf(side) >= 0);
        isState(state == '-');
        int before = roles.get(role).seenAs;
        roles.get(role).seenSide = side;
        roles.get(role).seenAs = as;
        return before;
    }

    char trait(int role, char trait) {
        isThere(isRole(role));
        isRight("-jmvd".indexOf(trait) >= 0);
        isState(state == '-');
        char before = roles.get(role).trait;
        roles.get(role).trait = trait;
        return before;
    }

    int turnInto(int role, int into) {
        isThere(isRole(role) && isRole(into));
        isState(state == '-');
        int before = roles.get(role).into;
        roles.get(role).into = into;
        return before;
    }

    int bag(int role) {
        isThere(isRole(role));
        isState(bag.size() < 8 && state == '-');
        bag.add(role);
        return bag.size();
    }

    int list(int role, int believed) {
        isThere(isRole(role));
        isThere(!isDrunk(role) || isRole(believed));
        long before = listed.stream().filter(entry -> entry[0] == role).count();
        isAllowed(before < Collections.frequency(bag, role) && !(isDrunk(role) && isDrunk(believed)));
        isState(state == '-');
        listed.add(new int[] {role, isDrunk(role) ? believed : role});
        return listed.size();
    }

    int deal(boolean shown, boolean two) {
        isAllowed(listed.size() == bag.size() && bag.size() >= 3);
        isState(state == '-');
        areShown = shown;
        isTwo = two;
        seats = new ArrayList<>();
        for (int[] entry : listed) {
            Seat seat = new Seat();
            seat.at = seats.size();
            seat.card = entry[0];
            seat.dealt = entry[0];
            seat.belief = isDrunk(entry[0]) ? entry[1] : entry[0];
            seat.firstBelief = seat.belief;
            seat.player = seats.size();
            seats.add(seat);
        }
        tellings = new ArrayList<>();
        claims = new ArrayList<>();
        isChanged = false;
        night = 1;
        state = 'n';
        return seats.size();
    }

    boolean gather() {
        boolean was = state != '-';
        state = '-';
        listed.clear();
        return was;
    }

    int empty() {
        isState(state == '-');
        int had = bag.size();
        bag.clear();
        listed.clear();
        return had;
    }

    int sit(int seat, int player) {
        isState(state != '-');
        isThere(isSeat(seat));
        isRight(player >= 0 && player < 8);
        isRight(seats.stream().noneMatch(other -> other.at != seat && other.player == player));
        int before = seats.get(seat).player;
        seats.get(seat).player = player;
        return before;
    }

    boolean act(int seat, int target, int second) {
        isState("nd".indexOf(state) >= 0);
        isAllowed(state == 'n');
        isThere(isSeat(seat) && isSeat(target));
        char act = roles.get(seats.get(seat).belief).act;
        if ("xhw".indexOf(act) >= 0) {
            isThere(isSeat(second));
            isRight(target != second);
        }
        isFound(seats.get(seat).isAlive && "-n".indexOf(act) < 0);
        boolean isNew = seats.get(seat).told == null;
        seats.get(seat).told = new int[] {target, second};
        return isNew;
    }

    int night() {
        isState("nd".indexOf(state) >= 0);
        isAllowed(state == 'n');
        crossed = new ArrayList<>();
        List<Deed> deeds = new ArrayList<>();
        for (Seat seat : seats) {
            seat.isPoisoned = false;
            seat.isBlocked = false;
            seat.isProtected = false;
            seat.isAttacked = false;
            seat.turn = null;
            Role role = roles.get(seat.belief);
            if (seat.isAlive && role.act != '-' && (role.act == 'n' || seat.told != null)) {
                deeds.add(new Deed(role.order, seat, role));
            }
        }
        deeds.sort(Comparator.comparing((Deed deed) -> deed.order).thenComparing(deed -> deed.seat.at));
        for (Deed deed : deeds) {
            if (!deed.seat.isBlocked) {
                perform(deed.seat, deed.role);
            }
        }
        int before = living();
        for (Seat seat : seats) {
            if (seat.isAttacked && !seat.isProtected) {
                die(seat);
            }
        }
        int died = before - living();
        for (Seat seat : seats) {
            if (seat.turn != null && seat.isAlive && !seat.isProtected) {
                seat.card = seat.turn;
                seat.belief = isDrunk(seat.card) ? seat.belief : seat.card;
                isChanged = true;
            }
            seat.told = null;
        }
        state = 'd';
        nominators = new TreeSet<>();
        nominated = new ArrayList<>();
        counted = new ArrayList<>();
        open = null;
        isVetoed = false;
        lookAtWins(null, false);
        return died;
    }

    private void perform(Seat seat, Role role) {
        if (role.way == 'o') {
            if (seat.didOnce) {
                return;
            }
            seat.didOnce = true;
        }
        boolean isSober = isSober(seat);
        if (role.act == 'n') {
            List<Integer> around = around(seat.at);
            int evil = (int) around.stream().filter(at -> card(at).seenSide == 'e').count();
            tell(seat, 'n', seat.at, evil, 3, isSober);
            return;
        }
        int at = seat.told[0];
        for (int[] both : crossed) {
            at = at == both[0] ? both[1] : at == both[1] ? both[0] : at;
        }
        Seat target = seats.get(at);
        if (role.act == 's') {
            tell(seat, 's', seat.told[0], card(at).seenSide == 'e' ? 1 : 0, 2, isSober);
        } else if (role.act == 'l') {
            tell(seat, 'l', seat.told[0], card(at).seenAs, roles.size(), isSober);
        } else if (isSober) {
            affect(seat, role.act, target);
        }
    }

    private void affect(Seat seat, char act, Seat target) {
        Seat second = "xhw".indexOf(act) >= 0 ? seats.get(seat.told[1]) : null;
        switch (act) {
            case 'b' -> target.isBlocked = true;
            case 'x' -> crossed.add(seat.told.clone());
            case 'd' -> target.isPoisoned = true;
            case 'p' -> target.isProtected = true;
            case 'k' -> target.isAttacked = true;
            case 'c' -> target.turn = card(seat.at).into;
            case 'h' -> {
                if (target != second && target.isAlive && second.isAlive) {
                    for (Seat one : seats) {
                        if (one.bond == target || one.bond == second) {
                            one.bond = null;
                        }
                    }
                    target.bond = second;
                    second.bond = target;
                }
            }
            case 'w' -> {
                if (target != second) {
                    int[] was = {target.card, target.belief};
                    int[] other = {second.card, second.belief};
                    target.card = other[0];
                    target.belief = isDrunk(other[0]) ? other[1] : other[0];
                    second.card = was[0];
                    second.belief = isDrunk(was[0]) ? was[1] : was[0];
                    isChanged = true;
                }
            }
            default -> throw new AssertionError(act);
        }
    }

    private void tell(Seat seat, char act, int target, int so, int end, boolean isSober) {
        if (tellings.size() == 60) {
            return;
        }
        Telling telling = new Telling();
        telling.night = night;
        telling.seat = seat.at;
        telling.act = act;
        telling.target = target;
        telling.number = isSober ? so : (so + 1) % end;
        telling.due = telling.number;
        telling.isSober = isSober;
        telling.isOfDealt = !isChanged;
        telling.around = around(seat.at);
        tellings.add(telling);
    }

    /** The living neighbours, the same one twice perhaps. */
    private List<Integer> around(int seat) {
        List<Integer> found = new ArrayList<>();
        int n = seats.size();
        for (int step : new int[] {1, n - 1}) {
            int at = (seat + step) % n;
            while (at != seat && !seats.get(at).isAlive) {
                at = (at + step) % n;
            }
            if (at != seat) {
                found.add(at);
            }
        }
        return found;
    }

    private void die(Seat seat) {
        if (!seat.isAlive) {
            return;
        }
        seat.isAlive = false;
        seat.shown = areShown && !isChanged ? (Integer) seat.card : null;
        if (seat.bond != null) {
            die(seat.bond);
        }
    }

    int nominate(int by, int seat) {
        isState("nd".indexOf(state) >= 0);
        isAllowed(state == 'd' && !isVetoed);
        isThere(isSeat(by) && isSeat(seat));
        isFound(seats.get(by).isAlive && !nominators.contains(by) && !nominated.contains(seat));
        closeOpen();
        nominators.add(by);
        nominated.add(seat);
        open = seat;
        voters = new TreeSet<>();
        return nominated.size();
    }

    int vote(int seat) {
        isState("nd".indexOf(state) >= 0);
        isAllowed(state == 'd' && open != null);
        isThere(isSeat(seat));
        Seat voter = seats.get(seat);
        isFound(!voters.contains(seat) && (voter.isAlive || voter.hasGhost));
        if (!voter.isAlive) {
            voter.hasGhost = false;
        }
        voters.add(seat);
        return voters.size();
    }

    int close() {
        isState("nd".indexOf(state) >= 0);
        isAllowed(state == 'd' && open != null);
        closeOpen();
        return condemned();
    }

    private void closeOpen() {
        if (open != null) {
            counted.add(new Vote(open, voters.size()));
        }
        open = null;
    }

    private int condemned() {
        int need = (living() + 1) / 2;
        int most = counted.stream().mapToInt(Vote::votes).max().orElse(0);
        List<Vote> best = counted.stream().filter(vote -> vote.votes == most && most >= need).toList();
        return best.size() == 1 && !isVetoed ? best.get(0).seat : -1;
    }

    boolean veto(int seat) {
        isState("nd".indexOf(state) >= 0);
        isAllowed(state == 'd' && !isVetoed);
        isThere(isSeat(seat));
        Seat who = seats.get(seat);
        isFound(who.isAlive && isSober(who) && card(seat).trait == 'v' && !who.didVeto);
        boolean was = condemned() >= 0;
        who.didVeto = true;
        isVetoed = true;
        open = null;
        return was;
    }

    int dusk() {
        isState("nd".indexOf(state) >= 0);
        isAllowed(state == 'd');
        closeOpen();
        int who = condemned();
        Seat executed = who >= 0 && seats.get(who).isAlive ? seats.get(who) : null;
        if (executed != null) {
            die(executed);
        }
        lookAtWins(executed, true);
        if (state == 'd') {
            state = 'n';
            night++;
            seats.forEach(seat -> seat.isPoisoned = false);
        }
        return executed == null ? -1 : who;
    }

    private void lookAtWins(Seat executed, boolean isDusk) {
        long evil = seats.stream().filter(seat -> seat.isAlive && card(seat.at).side == 'e').count();
        if (isDusk && executed != null && isSober(executed) && card(executed.at).trait == 'j') {
            state = 'j';
        } else if (isDusk && executed == null && living() == 3 && seats.stream()
                .anyMatch(seat -> seat.isAlive && isSober(seat) && card(seat.at).trait == 'm')) {
            state = 'm';
        } else if (evil == 0) {
            state = 'g';
        } else if (evil >= living() - evil || isTwo && living() <= 2) {
            state = 'e';
        }
        if ("mge".indexOf(state) >= 0) {
            rate();
        }
    }

    private void rate() {
        int[][] before = Arrays.stream(ratings).map(int[]::clone).toArray(int[][]::new);
        for (Seat seat : seats) {
            int side = card(seat.at).side == 'e' ? 1 : 0;
            int[] others = seats.stream().filter(other -> card(other.at).side != card(seat.at).side)
                    .mapToInt(other -> before[other.player][1 - side]).toArray();
            int due = 50;
            if (others.length > 0) {
                due += (before[seat.player][side] - Arrays.stream(others).sum() / others.length) / 8;
                due = due < 10 ? 10 : due > 90 ? 90 : due;
            }
            int won = (state == 'e') == (side == 1) ? 100 : 0;
            ratings[seat.player][side] += 32 * (won - due) / 100;
        }
    }

    int claimRole(int by, int seat, int role) {
        isState("nd".indexOf(state) >= 0 && claims.size() < 40);
        isThere(isSeat(by) && isSeat(seat) && isRole(role));
        claims.add(new Claim(by, seat, role, '-'));
        return claims.size();
    }

    int claimSide(int by, int seat, char side) {
        isState("nd".indexOf(state) >= 0 && claims.size() < 40);
        isThere(isSeat(by) && isSeat(seat));
        isRight("ge".indexOf(side) >= 0);
        claims.add(new Claim(by, seat, -1, side));
        return claims.size();
    }

    char state() {
        return state;
    }

    int nights() {
        isState(state != '-');
        return night;
    }

    int seat(int seat, char what) {
        isState(state != '-');
        isThere(isSeat(seat));
        isRight("cblpghw".indexOf(what) >= 0);
        Seat it = seats.get(seat);
        return switch (what) {
            case 'c' -> it.card;
            case 'b' -> it.belief;
            case 'l' -> it.isAlive ? 1 : 0;
            case 'p' -> it.isPoisoned ? 1 : 0;
            case 'g' -> it.hasGhost ? 1 : 0;
            case 'h' -> it.bond == null ? -1 : it.bond.at;
            default -> it.player;
        };
    }

    int living() {
        isState(state != '-');
        return (int) seats.stream().filter(seat -> seat.isAlive).count();
    }

    int tellings() {
        isState(state != '-');
        return tellings.size();
    }

    int telling(int telling, char what) {
        isState(state != '-');
        isThere(isTelling(telling));
        isRight("nstvf".indexOf(what) >= 0);
        Telling it = tellings.get(telling);
        return switch (what) {
            case 'n' -> it.night;
            case 's' -> it.seat;
            case 't' -> it.target;
            case 'v' -> it.number;
            default -> it.isSober ? 1 : 0;
        };
    }

    char actOf(int telling) {
        isState(state != '-');
        isThere(isTelling(telling));
        return tellings.get(telling).act;
    }

    long ways() {
        long ways = 1;
        for (int i = 2; i <= bag.size(); i++) {
            ways *= i;
        }
        for (int role : new TreeSet<>(bag)) {
            for (int i = 2; i <= Collections.frequency(bag, role); i++) {
                ways /= i;
            }
        }
        return ways;
    }

    /** All worlds, each a list of cards, in no order of meaning. */
    private List<List<Integer>> allWorlds() {
        isAllowed(ways() <= 2000);
        List<List<Integer>> worlds = new ArrayList<>();
        grow(new ArrayList<>(), worlds);
        return worlds;
    }

    private void grow(List<Integer> part, List<List<Integer>> worlds) {
        if (part.size() == bag.size()) {
            worlds.add(List.copyOf(part));
            return;
        }
        for (int role = 0; role < roles.size(); role++) {
            if (Collections.frequency(part, role) < Collections.frequency(bag, role)) {
                part.add(role);
                grow(part, worlds);
                part.remove(part.size() - 1);
            }
        }
    }

    private List<List<Integer>> open() {
        return allWorlds().stream().filter(this::isOpen).toList();
    }

    private boolean isOpen(List<Integer> world) {
        return seats.stream().allMatch(seat -> seat.shown == null || seat.shown.equals(world.get(seat.at)));
    }

    private List<List<Integer>> of(int seat) {
        return open().stream().filter(world -> isOf(seat, world)).toList();
    }

    private boolean isOf(int seat, List<Integer> world) {
        int own = world.get(seat);
        if (own != seats.get(seat).firstBelief && !isDrunk(own)) {
            return false;
        }
        boolean isLicensed = isDrunk(own);
        for (int other = 0; other < seats.size(); other++) {
            isLicensed |= other != seat && "dx".indexOf(roles.get(world.get(other)).act) >= 0;
        }
        boolean license = isLicensed;
        return tellings.stream().filter(telling -> telling.seat == seat && telling.isOfDealt)
                .allMatch(telling -> license || isSo(telling, world));
    }

    private boolean isSo(Telling telling, List<Integer> world) {
        Role seen = roles.get(world.get(telling.target));
        return telling.number == switch (telling.act) {
            case 's' -> seen.seenSide == 'e' ? 1 : 0;
            case 'l' -> seen.seenAs;
            default -> (int) telling.around.stream().filter(at -> roles.get(world.get(at)).seenSide == 'e').count();
        };
    }

    int openWorlds() {
        isState(state != '-');
        return open().size();
    }

    int worlds(int seat) {
        isState(state != '-');
        isThere(isSeat(seat));
        return of(seat).size();
    }

    int chanceOf(int seat, int other, int role) {
        isState(state != '-');
        isThere(isSeat(seat) && isSeat(other) && isRole(role));
        return (int) of(seat).stream().filter(world -> world.get(other) == role).count();
    }

    int evilChance(int seat, int other) {
        isState(state != '-');
        isThere(isSeat(seat) && isSeat(other));
        return evilIn(of(seat), other);
    }

    private int evilIn(List<List<Integer>> worlds, int other) {
        return (int) worlds.stream().filter(world -> roles.get(world.get(other)).side == 'e').count();
    }

    char knows(int seat, int other) {
        isState(state != '-');
        isThere(isSeat(seat) && isSeat(other));
        List<List<Integer>> worlds = of(seat);
        boolean isEvil = worlds.stream().anyMatch(world -> roles.get(world.get(other)).side == 'e');
        boolean isGood = worlds.stream().anyMatch(world -> roles.get(world.get(other)).side == 'g');
        return isEvil == isGood ? '-' : isEvil ? 'e' : 'g';
    }

    int bestVote(int seat) {
        isState(state != '-');
        isThere(isSeat(seat));
        List<List<Integer>> worlds = of(seat);
        isFound(!worlds.isEmpty());
        return seats.stream().filter(other -> other.isAlive && other.at != seat).map(other -> other.at)
                .max(Comparator.comparing((Integer at) -> evilIn(worlds, at)).thenComparing(at -> -at))
                .orElseThrow(NoSuchElementException::new);
    }

    int leastLiars() {
        isState(state != '-');
        return open().stream().mapToInt(world -> (int) seats.stream().filter(seat -> claims.stream()
                .anyMatch(claim -> claim.by == seat.at && !isSo(claim, world))).count()).min()
                .orElseThrow(NoSuchElementException::new);
    }

    private boolean isSo(Claim claim, List<Integer> world) {
        int card = world.get(claim.of);
        return claim.role >= 0 ? card == claim.role : roles.get(card).side == claim.side;
    }

    int claimed(int seat) {
        isState(state != '-');
        isThere(isSeat(seat));
        return (int) open().stream().filter(world -> claims.stream()
                .allMatch(claim -> claim.by != seat || isSo(claim, world))).count();
    }

    int bluff(int seat) {
        isState(state != '-');
        isThere(isSeat(seat));
        return open().stream().filter(world -> claims.stream()
                .allMatch(claim -> claim.by != seat || claim.of == seat || isSo(claim, world)))
                .mapToInt(world -> world.get(seat)).filter(role -> roles.get(role).side == 'g').min()
                .orElseThrow(NoSuchElementException::new);
    }

    int slip(int telling, int number) {
        isState("nd".indexOf(state) >= 0);
        isThere(isTelling(telling));
        isRight(number >= 0 && number <= 9);
        int before = tellings.get(telling).number;
        tellings.get(telling).number = number;
        return before;
    }

    int firstWrong() {
        isState(state != '-');
        for (int telling = 0; telling < tellings.size(); telling++) {
            if (tellings.get(telling).number != tellings.get(telling).due) {
                return telling;
            }
        }
        throw new NoSuchElementException();
    }

    int voidNights() {
        isState(state != '-');
        int first = tellings.stream().filter(telling -> telling.number != telling.due)
                .mapToInt(telling -> telling.night).min().orElse(Integer.MAX_VALUE);
        int count = 0;
        for (int passed = 1; passed <= (state == 'n' ? night - 1 : night); passed++) {
            count += passed >= first ? 1 : 0;
        }
        return count;
    }

    int mend() {
        isState("nd".indexOf(state) >= 0);
        Telling telling = tellings.get(firstWrong());
        telling.number = telling.due;
        return telling.number;
    }

    int rating(int player, char side) {
        isRight(player >= 0 && player < 8 && "ge".indexOf(side) >= 0);
        return ratings[player][side == 'e' ? 1 : 0];
    }

    int roles() {
        return roles.size();
    }

    long checksum() {
        isState(state != '-');
        long sum = 7;
        for (Seat seat : seats) {
            sum = 31 * sum + seat.card + (seat.isAlive ? 20 : 0);
        }
        for (Telling telling : tellings) {
            sum = 31 * sum + telling.number;
        }
        return sum;
    }

    float evilShare() {
        isState(state != '-');
        if (living() == 0) {
            throw new ArithmeticException();
        }
        long evil = seats.stream().filter(seat -> seat.isAlive && card(seat.at).side == 'e').count();
        return (float) evil / (float) living();
    }

    double meanWorlds() {
        isState(state != '-');
        isAllowed(ways() <= 2000);
        if (living() == 0) {
            throw new ArithmeticException();
        }
        return (double) seats.stream().filter(seat -> seat.isAlive).mapToInt(seat -> worlds(seat.at)).sum()
                / (double) living();
    }

    boolean isSound() {
        if (state == '-') {
            return true;
        }
        boolean isRight = tellings.stream().allMatch(telling -> telling.number == telling.due);
        if (isRight && !isChanged && ways() <= 2000) {
            List<Integer> dealt = seats.stream().map(seat -> seat.dealt).toList();
            if (!isOpen(dealt) || seats.stream().anyMatch(seat -> !isOf(seat.at, dealt))) {
                return false;
            }
        }
        return seats.stream().allMatch(seat -> seat.bond == null
                || seat.bond.bond == seat && seat.bond.isAlive == seat.isAlive);
    }

    private boolean isRole(int role) {
        return role >= 0 && role < roles.size();
    }

    private boolean isSeat(int seat) {
        return seat >= 0 && seat < seats.size();
    }

    private boolean isTelling(int telling) {
        return telling >= 0 && telling < tellings.size();
    }

    private boolean isDrunk(int role) {
        return roles.get(role).trait == 'd';
    }

    private Role card(int seat) {
        return roles.get(seats.get(seat).card);
    }

    private boolean isSober(Seat seat) {
        return !seat.isPoisoned && !isDrunk(seat.card);
    }

    private static void isState(boolean holds) {
        if (!holds) {
            throw new IllegalStateException();
        }
    }

    private static void isAllowed(boolean holds) {
        if (!holds) {
            throw new UnsupportedOperationException();
        }
    }

    private static void isThere(boolean holds) {
        if (!holds) {
            throw new IndexOutOfBoundsException();
        }
    }

    private static void isRight(boolean holds) {
        if (!holds) {
            throw new IllegalArgumentException();
        }
    }

    private static void isFound(boolean holds) {
        if (!holds) {
            throw new NoSuchElementException();
        }
    }
}
