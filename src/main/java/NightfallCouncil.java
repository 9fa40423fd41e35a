import java.util.NoSuchElementException;

/** A council of hidden roles: roles, a bag, one game at a time, and the ratings of its players. */
public final class NightfallCouncil {
    private static final int MOST_ROLES = 10;
    private static final int MOST_ORDER = 9;
    private static final int LEAST_SEATS = 3;
    private static final int MOST_SEATS = 8;
    private static final int PLAYERS = 8;
    private static final int MOST_TELLINGS = 60;
    private static final int MOST_NUMBER = 9;
    private static final int MOST_CLAIMS = 40;
    private static final int MOST_WAYS = 2000;
    private static final String SIDES = "ge";
    private static final String ACTS = "-bxdpkchwsln";
    private static final String WAYS = "eo";
    private static final String TRAITS = "-jmvd";

    private final Book book;
    private final Sack sack;
    private final Ring ring;
    private final Log log;
    private final Dark dark;
    private final Court court;
    private final Claims claims;
    private final Deals deals;
    private final Ranks ranks;
    private char phase;
    private int number;
    private boolean isTwo;

    public NightfallCouncil() {
        book = new Book();
        sack = new Sack();
        ring = new Ring(book);
        log = new Log(book, ring);
        dark = new Dark(book, ring, log);
        court = new Court();
        claims = new Claims(book);
        deals = new Deals(book, ring, log);
        ranks = new Ranks(ring);
        phase = '-';
    }

    public int role(char side, char act, int order, char way)
            throws IllegalArgumentException, IllegalStateException {
        if (!isOneOf(side, SIDES) || !isOneOf(act, ACTS) || !isOneOf(way, WAYS)) {
            throw new IllegalArgumentException("no such side, act or way");
        }
        if (order < 0 || order > MOST_ORDER) {
            throw new IllegalArgumentException("the order is out of range");
        }
        if (book.size() >= MOST_ROLES) {
            throw new IllegalStateException("there are 10 roles");
        }
        requireNoGame();
        return book.add(side, act, order, way);
    }

    public int register(int role, char side, int as)
            throws IndexOutOfBoundsException, IllegalArgumentException, IllegalStateException {
        requireRole(role);
        requireRole(as);
        requireSide(side);
        requireNoGame();
        return book.changeSeen(role, side, as);
    }

    public char trait(int role, char trait)
            throws IndexOutOfBoundsException, IllegalArgumentException, IllegalStateException {
        requireRole(role);
        if (!isOneOf(trait, TRAITS)) {
            throw new IllegalArgumentException("no such trait");
        }
        requireNoGame();
        return book.changeTrait(role, trait);
    }

    public int turnInto(int role, int into) throws IndexOutOfBoundsException, IllegalStateException {
        requireRole(role);
        requireRole(into);
        requireNoGame();
        return book.changeInto(role, into);
    }

    public int bag(int role) throws IndexOutOfBoundsException, IllegalStateException {
        requireRole(role);
        if (sack.size() >= MOST_SEATS) {
            throw new IllegalStateException("the bag has 8 roles");
        }
        requireNoGame();
        return sack.put(role);
    }

    public int list(int role, int believed)
            throws IndexOutOfBoundsException, UnsupportedOperationException, IllegalStateException {
        requireRole(role);
        boolean isDrunk = book.isDrunk(role);
        if (isDrunk) {
            requireRole(believed);
        }
        if (!sack.hasMore(role)) {
            throw new UnsupportedOperationException("not so many of the role are in the bag");
        }
        if (isDrunk && book.isDrunk(believed)) {
            throw new UnsupportedOperationException("no seat believes in a drunk role");
        }
        requireNoGame();
        return sack.enlist(role, isDrunk ? believed : role);
    }

    public int deal(boolean areShown, boolean isTwo)
            throws UnsupportedOperationException, IllegalStateException {
        if (!sack.isListed() || sack.size() < LEAST_SEATS) {
            throw new UnsupportedOperationException("the bag is not listed, or too small");
        }
        requireNoGame();
        this.isTwo = isTwo;
        ring.start(sack, areShown);
        log.clear();
        dark.forget();
        court.start();
        claims.clear();
        deals.fill(sack);
        phase = 'n';
        number = 1;
        return ring.size();
    }

    public boolean gather() {
        boolean wasGame = isGame();
        phase = '-';
        sack.clearList();
        return wasGame;
    }

    public int empty() throws IllegalStateException {
        requireNoGame();
        int had = sack.size();
        sack.clear();
        return had;
    }

    public int sit(int seat, int player)
            throws IllegalStateException, IndexOutOfBoundsException, IllegalArgumentException {
        requireGame();
        requireSeat(seat);
        if (!isPlayer(player)) {
            throw new IllegalArgumentException("no such player");
        }
        int taken = ring.seatOfPlayer(player);
        if (taken >= 0 && taken != seat) {
            throw new IllegalArgumentException("the player sits on another seat");
        }
        return ring.changePlayer(seat, player);
    }

    public boolean act(int seat, int target, int second)
            throws IllegalStateException, UnsupportedOperationException, IndexOutOfBoundsException,
            IllegalArgumentException, NoSuchElementException {
        requireGoing();
        requireNight();
        requireSeat(seat);
        requireSeat(target);
        int role = ring.beliefOf(seat);
        if (book.hasSecond(role)) {
            requireSeat(second);
            if (second == target) {
                throw new IllegalArgumentException("the second one is the target");
            }
        }
        if (!ring.isAlive(seat) || !book.hasTarget(role)) {
            throw new NoSuchElementException("the seat is dead, or its act has no target");
        }
        return dark.tell(seat, target, second);
    }

    public int night() throws IllegalStateException, UnsupportedOperationException {
        requireGoing();
        requireNight();
        int died = dark.pass(number);
        char winner = winnerByCards();
        if (winner == '-') {
            phase = 'd';
            court.start();
        } else {
            win(winner);
        }
        return died;
    }

    public int nominate(int by, int seat)
            throws IllegalStateException, UnsupportedOperationException, IndexOutOfBoundsException,
            NoSuchElementException {
        requireGoing();
        requireDay();
        requireNoVeto();
        requireSeat(by);
        requireSeat(seat);
        if (!ring.isAlive(by) || court.hasNominated(by) || court.wasNominated(seat)) {
            throw new NoSuchElementException("the nomination is not allowed today");
        }
        court.count(ring.countLiving());
        return court.open(by, seat);
    }

    public int vote(int seat)
            throws IllegalStateException, UnsupportedOperationException, IndexOutOfBoundsException,
            NoSuchElementException {
        requireGoing();
        requireOpen();
        requireSeat(seat);
        boolean isAlive = ring.isAlive(seat);
        if (court.hasVoted(seat) || !isAlive && !ring.hasGhost(seat)) {
            throw new NoSuchElementException("the seat has no vote");
        }
        if (!isAlive) {
            ring.spendGhost(seat);
        }
        return court.add(seat);
    }

    public int close() throws IllegalStateException, UnsupportedOperationException {
        requireGoing();
        requireOpen();
        court.count(ring.countLiving());
        return court.condemned();
    }

    public boolean veto(int seat)
            throws IllegalStateException, UnsupportedOperationException, IndexOutOfBoundsException,
            NoSuchElementException {
        requireGoing();
        requireDay();
        requireNoVeto();
        requireSeat(seat);
        if (!ring.isAlive(seat) || !ring.isSoberWith(seat, 'v') || ring.hasSpentVeto(seat)) {
            throw new NoSuchElementException("the seat cannot veto");
        }
        ring.spendVeto(seat);
        return court.stop();
    }

    public int dusk() throws IllegalStateException, UnsupportedOperationException {
        requireGoing();
        requireDay();
        court.count(ring.countLiving());
        int executed = court.condemned();
        if (!ring.isAlive(executed)) {
            executed = -1;
        }
        ring.kill(executed);
        char winner = winnerAtDusk(executed);
        if (winner == '-') {
            beginNight();
        } else {
            win(winner);
        }
        return executed;
    }

    public int claimRole(int by, int seat, int role)
            throws IllegalStateException, IndexOutOfBoundsException {
        requireRoomForClaim();
        requireSeat(by);
        requireSeat(seat);
        requireRole(role);
        return claims.add(by, seat, role, '-');
    }

    public int claimSide(int by, int seat, char side)
            throws IllegalStateException, IndexOutOfBoundsException, IllegalArgumentException {
        requireRoomForClaim();
        requireSeat(by);
        requireSeat(seat);
        requireSide(side);
        return claims.add(by, seat, -1, side);
    }

    public char state() {
        return phase;
    }

    public int nights() throws IllegalStateException {
        requireGame();
        return number;
    }

    public int seat(int seat, char what)
            throws IllegalStateException, IndexOutOfBoundsException, IllegalArgumentException {
        requireGame();
        requireSeat(seat);
        switch (what) {
            case 'c':
                return ring.cardOf(seat);
            case 'b':
                return ring.beliefOf(seat);
            case 'l':
                return ring.isAlive(seat) ? 1 : 0;
            case 'p':
                return ring.isPoisoned(seat) ? 1 : 0;
            case 'g':
                return ring.hasGhost(seat) ? 1 : 0;
            case 'h':
                return ring.bondOf(seat);
            case 'w':
                return ring.playerOf(seat);
            default:
                throw new IllegalArgumentException("no such thing of a seat");
        }
    }

    public int living() throws IllegalStateException {
        requireGame();
        return ring.countLiving();
    }

    public int tellings() throws IllegalStateException {
        requireGame();
        return log.size();
    }

    public int telling(int telling, char what)
            throws IllegalStateException, IndexOutOfBoundsException, IllegalArgumentException {
        requireGame();
        requireTelling(telling);
        switch (what) {
            case 'n':
                return log.nightOf(telling);
            case 's':
                return log.seatOf(telling);
            case 't':
                return log.targetOf(telling);
            case 'v':
                return log.numberOf(telling);
            case 'f':
                return log.wasSober(telling) ? 1 : 0;
            default:
                throw new IllegalArgumentException("no such thing of a telling");
        }
    }

    public char actOf(int telling) throws IllegalStateException, IndexOutOfBoundsException {
        requireGame();
        requireTelling(telling);
        return log.deedOf(telling);
    }

    public long ways() {
        return sack.countWays();
    }

    public int openWorlds() throws IllegalStateException, UnsupportedOperationException {
        requireGame();
        requireFewWays();
        return deals.chooseOpen();
    }

    public int worlds(int seat)
            throws IllegalStateException, IndexOutOfBoundsException, UnsupportedOperationException {
        requireGame();
        requireSeat(seat);
        requireFewWays();
        return deals.chooseOf(seat);
    }

    public int chanceOf(int seat, int other, int role)
            throws IllegalStateException, IndexOutOfBoundsException, UnsupportedOperationException {
        requireGame();
        requireSeat(seat);
        requireSeat(other);
        requireRole(role);
        requireFewWays();
        deals.chooseOf(seat);
        return deals.countRole(other, role);
    }

    public int evilChance(int seat, int other)
            throws IllegalStateException, IndexOutOfBoundsException, UnsupportedOperationException {
        requireGame();
        requireSeat(seat);
        requireSeat(other);
        requireFewWays();
        deals.chooseOf(seat);
        return deals.countEvil(other);
    }

    public char knows(int seat, int other)
            throws IllegalStateException, IndexOutOfBoundsException, UnsupportedOperationException {
        requireGame();
        requireSeat(seat);
        requireSeat(other);
        requireFewWays();
        int all = deals.chooseOf(seat);
        int evil = deals.countEvil(other);
        if (all == 0 || evil > 0 && evil < all) {
            return '-';
        }
        return evil == 0 ? 'g' : 'e';
    }

    public int bestVote(int seat)
            throws IllegalStateException, IndexOutOfBoundsException, UnsupportedOperationException,
            NoSuchElementException {
        requireGame();
        requireSeat(seat);
        requireFewWays();
        int best = deals.chooseOf(seat) > 0 ? likeliestEvil(seat) : -1;
        if (best < 0) {
            throw new NoSuchElementException("no other one is alive, or there is no world");
        }
        return best;
    }

    public int leastLiars()
            throws IllegalStateException, UnsupportedOperationException, NoSuchElementException {
        requireGame();
        requireFewWays();
        if (deals.chooseOpen() == 0) {
            throw new NoSuchElementException("there is no world");
        }
        return deals.leastLiarsBy(claims);
    }

    public int claimed(int seat)
            throws IllegalStateException, IndexOutOfBoundsException, UnsupportedOperationException {
        requireGame();
        requireSeat(seat);
        requireFewWays();
        deals.chooseOpen();
        return deals.countHonest(claims, seat);
    }

    public int bluff(int seat)
            throws IllegalStateException, IndexOutOfBoundsException, UnsupportedOperationException,
            NoSuchElementException {
        requireGame();
        requireSeat(seat);
        requireFewWays();
        deals.chooseOpen();
        int role = deals.lowestGood(claims, seat);
        if (role < 0) {
            throw new NoSuchElementException("there is no such role");
        }
        return role;
    }

    public int slip(int telling, int number)
            throws IllegalStateException, IndexOutOfBoundsException, IllegalArgumentException {
        requireGoing();
        requireTelling(telling);
        if (number < 0 || number > MOST_NUMBER) {
            throw new IllegalArgumentException("the number is out of range");
        }
        return log.changeNumber(telling, number);
    }

    public int firstWrong() throws IllegalStateException, NoSuchElementException {
        requireGame();
        return requireWrong();
    }

    public int voidNights() throws IllegalStateException {
        requireGame();
        int wrong = log.findWrong();
        if (wrong < 0) {
            return 0;
        }
        int passed = phase == 'n' ? number - 1 : number;
        return passed - log.nightOf(wrong) + 1;
    }

    public int mend() throws IllegalStateException, NoSuchElementException {
        requireGoing();
        int wrong = requireWrong();
        int due = log.dueOf(wrong);
        log.changeNumber(wrong, due);
        return due;
    }

    public int rating(int player, char side) throws IllegalArgumentException {
        if (!isPlayer(player)) {
            throw new IllegalArgumentException("no such player");
        }
        requireSide(side);
        return ranks.of(player, side == 'e');
    }

    public int roles() {
        return book.size();
    }

    public long checksum() throws IllegalStateException {
        requireGame();
        long sum = 7;
        for (int seat = 0; seat < ring.size(); seat++) {
            sum = 31 * sum + ring.cardOf(seat) + (ring.isAlive(seat) ? 20 : 0);
        }
        for (int telling = 0; telling < log.size(); telling++) {
            sum = 31 * sum + log.numberOf(telling);
        }
        return sum;
    }

    public float evilShare() throws IllegalStateException, ArithmeticException {
        requireGame();
        int living = requireLiving();
        return (float) ring.countEvil() / (float) living;
    }

    public double meanWorlds()
            throws IllegalStateException, UnsupportedOperationException, ArithmeticException {
        requireGame();
        requireFewWays();
        int living = requireLiving();
        int sum = 0;
        for (int seat = 0; seat < ring.size(); seat++) {
            if (ring.isAlive(seat)) {
                sum += deals.chooseOf(seat);
            }
        }
        return (double) sum / (double) living;
    }

    public boolean isSound() {
        if (!isGame()) {
            return true;
        }
        boolean isTruthDue = log.findWrong() < 0 && !ring.isMixed() && hasFewWays();
        if (isTruthDue && !deals.holdDealt()) {
            return false;
        }
        return ring.areBondsSound();
    }

    private static boolean isOneOf(char sign, String signs) {
        for (int i = 0; i < signs.length(); i++) {
            if (signs.charAt(i) == sign) {
                return true;
            }
        }
        return false;
    }

    private static boolean isPlayer(int player) {
        return player >= 0 && player < PLAYERS;
    }

    private boolean isGame() {
        return phase != '-';
    }

    private boolean hasFewWays() {
        return sack.countWays() <= MOST_WAYS;
    }

    private void requireNoGame() {
        if (isGame()) {
            throw new IllegalStateException("a game was dealt");
        }
    }

    private void requireGame() {
        if (!isGame()) {
            throw new IllegalStateException("there is no game");
        }
    }

    private void requireGoing() {
        if (phase != 'n' && phase != 'd') {
            throw new IllegalStateException("no game goes on");
        }
    }

    private void requireNight() {
        if (phase != 'n') {
            throw new UnsupportedOperationException("it is day");
        }
    }

    private void requireDay() {
        if (phase != 'd') {
            throw new UnsupportedOperationException("it is night");
        }
    }

    private void requireNoVeto() {
        if (court.isStopped()) {
            throw new UnsupportedOperationException("there was a veto");
        }
    }

    private void requireOpen() {
        if (phase != 'd' || !court.isOpen()) {
            throw new UnsupportedOperationException("no nomination is open");
        }
    }

    private void requireRoomForClaim() {
        requireGoing();
        if (claims.size() >= MOST_CLAIMS) {
            throw new IllegalStateException("there are 40 claims");
        }
    }

    private void requireFewWays() {
        if (!hasFewWays()) {
            throw new UnsupportedOperationException("there are too many ways to deal the bag");
        }
    }

    private void requireRole(int role) {
        if (!book.has(role)) {
            throw new IndexOutOfBoundsException("no such role");
        }
    }

    private void requireSeat(int seat) {
        if (!ring.has(seat)) {
            throw new IndexOutOfBoundsException("no such seat");
        }
    }

    private void requireTelling(int telling) {
        if (!log.has(telling)) {
            throw new IndexOutOfBoundsException("no such telling");
        }
    }

    private void requireSide(char side) {
        if (!isOneOf(side, SIDES)) {
            throw new IllegalArgumentException("no such side");
        }
    }

    private int requireWrong() {
        int wrong = log.findWrong();
        if (wrong < 0) {
            throw new NoSuchElementException("no telling is wrong");
        }
        return wrong;
    }

    private int requireLiving() {
        int living = ring.countLiving();
        if (living == 0) {
            throw new ArithmeticException("none are living");
        }
        return living;
    }

    /** Dawn looks at the cards alone; jesters and mayors win by executions and by their absence. */
    private char winnerByCards() {
        int living = ring.countLiving();
        int evil = ring.countEvil();
        if (evil == 0) {
            return 'g';
        }
        if (evil >= living - evil || isTwo && living <= 2) {
            return 'e';
        }
        return '-';
    }

    private char winnerAtDusk(int executed) {
        if (ring.isSoberWith(executed, 'j')) {
            return 'j';
        }
        if (executed < 0 && ring.countLiving() == 3 && ring.hasSoberMayor()) {
            return 'm';
        }
        return winnerByCards();
    }

    private void win(char winner) {
        phase = winner;
        if (winner != 'j') {
            ranks.settle(winner == 'e');
        }
    }

    private void beginNight() {
        phase = 'n';
        number++;
        ring.endPoison();
    }

    private int likeliestEvil(int seat) {
        int best = -1;
        int most = -1;
        for (int other = 0; other < ring.size(); other++) {
            if (other == seat || !ring.isAlive(other)) {
                continue;
            }
            int evil = deals.countEvil(other);
            if (evil > most) {
                best = other;
                most = evil;
            }
        }
        return best;
    }

    /** The roles, as they are told before a game is dealt. */
    private static final class Book {
        private final char[] side;
        private final char[] deed;
        private final int[] order;
        private final char[] way;
        private final char[] seenSide;
        private final int[] seenAs;
        private final char[] mark;
        private final int[] into;
        private int size;

        Book() {
            side = new char[MOST_ROLES];
            deed = new char[MOST_ROLES];
            order = new int[MOST_ROLES];
            way = new char[MOST_ROLES];
            seenSide = new char[MOST_ROLES];
            seenAs = new int[MOST_ROLES];
            mark = new char[MOST_ROLES];
            into = new int[MOST_ROLES];
        }

        int size() {
            return size;
        }

        boolean has(int role) {
            return role >= 0 && role < size;
        }

        int add(char newSide, char newDeed, int newOrder, char newWay) {
            int role = size;
            if (role >= MOST_ROLES) {
                return -1;
            }
            side[role] = newSide;
            deed[role] = newDeed;
            order[role] = newOrder;
            way[role] = newWay;
            seenSide[role] = newSide;
            seenAs[role] = role;
            mark[role] = '-';
            into[role] = role;
            size++;
            return role;
        }

        int changeSeen(int role, char newSide, int as) {
            if (!has(role)) {
                return -1;
            }
            int before = seenAs[role];
            seenSide[role] = newSide;
            seenAs[role] = as;
            return before;
        }

        char changeTrait(int role, char newMark) {
            if (!has(role)) {
                return '-';
            }
            char before = mark[role];
            mark[role] = newMark;
            return before;
        }

        int changeInto(int role, int newInto) {
            if (!has(role)) {
                return -1;
            }
            int before = into[role];
            into[role] = newInto;
            return before;
        }

        boolean isEvil(int role) {
            return has(role) && side[role] == 'e';
        }

        /** 1 for a role that registers as evil, 0 for another one, and for no role. */
        int seenEvil(int role) {
            return has(role) && seenSide[role] == 'e' ? 1 : 0;
        }

        int seenRole(int role) {
            return has(role) ? seenAs[role] : -1;
        }

        char deedOf(int role) {
            return has(role) ? deed[role] : '-';
        }

        int orderOf(int role) {
            return has(role) ? order[role] : -1;
        }

        int turnsTo(int role) {
            return has(role) ? into[role] : -1;
        }

        boolean isOnce(int role) {
            return has(role) && way[role] == 'o';
        }

        boolean hasTrait(int role, char wanted) {
            return has(role) && mark[role] == wanted;
        }

        boolean isDrunk(int role) {
            return has(role) && mark[role] == 'd';
        }

        boolean hasTarget(int role) {
            char act = deedOf(role);
            return act != '-' && act != 'n';
        }

        boolean hasSecond(int role) {
            char act = deedOf(role);
            return act == 'x' || act == 'h' || act == 'w';
        }

        /** Whether a card of the role in another seat can be the reason of what is not so. */
        boolean isMisleading(int role) {
            char act = deedOf(role);
            return act == 'd' || act == 'x';
        }
    }

    /** The bag, and the list by which it will be dealt. */
    private static final class Sack {
        private final int[] amounts;
        private final int[] listed;
        private final int[] believed;
        private int size;
        private int length;

        Sack() {
            amounts = new int[MOST_ROLES];
            listed = new int[MOST_SEATS];
            believed = new int[MOST_SEATS];
        }

        int size() {
            return size;
        }

        int put(int role) {
            if (role >= 0 && role < MOST_ROLES && size < MOST_SEATS) {
                amounts[role]++;
                size++;
            }
            return size;
        }

        int amountOf(int role) {
            return role >= 0 && role < MOST_ROLES ? amounts[role] : 0;
        }

        boolean hasMore(int role) {
            int used = 0;
            for (int i = 0; i < length; i++) {
                if (listed[i] == role) {
                    used++;
                }
            }
            return used < amountOf(role);
        }

        int enlist(int role, int belief) {
            if (length < MOST_SEATS) {
                listed[length] = role;
                believed[length] = belief;
                length++;
            }
            return length;
        }

        boolean isListed() {
            return length == size;
        }

        int listedAt(int place) {
            return place >= 0 && place < length ? listed[place] : -1;
        }

        int believedAt(int place) {
            return place >= 0 && place < length ? believed[place] : -1;
        }

        void clearList() {
            length = 0;
        }

        void clear() {
            clearList();
            size = 0;
            for (int role = 0; role < MOST_ROLES; role++) {
                amounts[role] = 0;
            }
        }

        long countWays() {
            long count = 1;
            int placed = 0;
            for (int role = 0; role < MOST_ROLES; role++) {
                for (int same = 1; same <= amounts[role]; same++) {
                    placed++;
                    count = count * placed / same;
                }
            }
            return count;
        }
    }

    /** The seats of the game, and what is so of each. */
    private static final class Ring {
        private final Book book;
        private final int[] card;
        private final int[] belief;
        private final int[] firstBelief;
        private final boolean[] alive;
        private final boolean[] poisoned;
        private final boolean[] ghost;
        private final boolean[] hasActedOnce;
        private final boolean[] hasVetoed;
        private final int[] bond;
        private final int[] player;
        private int size;
        private boolean areShown;
        private boolean isMixed;
        private int dealt;
        private int shownSeats;
        private int shownCards;

        Ring(Book roleBook) {
            book = roleBook;
            card = new int[MOST_SEATS];
            belief = new int[MOST_SEATS];
            firstBelief = new int[MOST_SEATS];
            alive = new boolean[MOST_SEATS];
            poisoned = new boolean[MOST_SEATS];
            ghost = new boolean[MOST_SEATS];
            hasActedOnce = new boolean[MOST_SEATS];
            hasVetoed = new boolean[MOST_SEATS];
            bond = new int[MOST_SEATS];
            player = new int[MOST_SEATS];
        }

        void start(Sack sack, boolean areCardsShown) {
            size = Math.min(sack.size(), MOST_SEATS);
            areShown = areCardsShown;
            isMixed = false;
            dealt = 0;
            shownSeats = 0;
            shownCards = 0;
            for (int seat = 0; seat < size; seat++) {
                int role = sack.listedAt(seat);
                card[seat] = role;
                // A trait can change between the listing and the deal.
                belief[seat] = book.isDrunk(role) ? sack.believedAt(seat) : role;
                firstBelief[seat] = belief[seat];
                alive[seat] = true;
                poisoned[seat] = false;
                ghost[seat] = true;
                hasActedOnce[seat] = false;
                hasVetoed[seat] = false;
                bond[seat] = -1;
                player[seat] = seat;
                dealt = Deals.put(dealt, seat, role);
            }
        }

        int size() {
            return size;
        }

        boolean has(int seat) {
            return seat >= 0 && seat < size;
        }

        int cardOf(int seat) {
            return has(seat) ? card[seat] : -1;
        }

        int beliefOf(int seat) {
            return has(seat) ? belief[seat] : -1;
        }

        int firstBeliefOf(int seat) {
            return has(seat) ? firstBelief[seat] : -1;
        }

        boolean isAlive(int seat) {
            return has(seat) && alive[seat];
        }

        boolean isPoisoned(int seat) {
            return has(seat) && poisoned[seat];
        }

        boolean isSober(int seat) {
            return has(seat) && !poisoned[seat] && !book.isDrunk(card[seat]);
        }

        boolean isSoberWith(int seat, char trait) {
            return isSober(seat) && book.hasTrait(card[seat], trait);
        }

        boolean hasSoberMayor() {
            for (int seat = 0; seat < size; seat++) {
                if (alive[seat] && isSoberWith(seat, 'm')) {
                    return true;
                }
            }
            return false;
        }

        boolean isEvil(int seat) {
            return has(seat) && book.isEvil(card[seat]);
        }

        int countLiving() {
            int count = 0;
            for (int seat = 0; seat < size; seat++) {
                if (alive[seat]) {
                    count++;
                }
            }
            return count;
        }

        int countEvil() {
            int count = 0;
            for (int seat = 0; seat < size; seat++) {
                if (alive[seat] && isEvil(seat)) {
                    count++;
                }
            }
            return count;
        }

        boolean hasGhost(int seat) {
            return has(seat) && ghost[seat];
        }

        void spendGhost(int seat) {
            if (has(seat)) {
                ghost[seat] = false;
            }
        }

        boolean hasSpentVeto(int seat) {
            return has(seat) && hasVetoed[seat];
        }

        void spendVeto(int seat) {
            if (has(seat)) {
                hasVetoed[seat] = true;
            }
        }

        /** Takes the only time that the seat has for acts of roles with the way 'o'. */
        boolean takeOnce(int seat) {
            if (!has(seat) || hasActedOnce[seat]) {
                return false;
            }
            hasActedOnce[seat] = true;
            return true;
        }

        int playerOf(int seat) {
            return has(seat) ? player[seat] : -1;
        }

        int seatOfPlayer(int wanted) {
            for (int seat = 0; seat < size; seat++) {
                if (player[seat] == wanted) {
                    return seat;
                }
            }
            return -1;
        }

        int changePlayer(int seat, int newPlayer) {
            if (!has(seat)) {
                return -1;
            }
            int before = player[seat];
            player[seat] = newPlayer;
            return before;
        }

        void poison(int seat) {
            if (has(seat)) {
                poisoned[seat] = true;
            }
        }

        void endPoison() {
            for (int seat = 0; seat < size; seat++) {
                poisoned[seat] = false;
            }
        }

        int bondOf(int seat) {
            return has(seat) ? bond[seat] : -1;
        }

        void bind(int one, int other) {
            if (one == other || !isAlive(one) || !isAlive(other)) {
                return;
            }
            loosen(one);
            loosen(other);
            bond[one] = other;
            bond[other] = one;
        }

        private void loosen(int seat) {
            if (!has(seat)) {
                return;
            }
            int other = bond[seat];
            if (has(other)) {
                bond[other] = -1;
            }
            bond[seat] = -1;
        }

        boolean areBondsSound() {
            for (int seat = 0; seat < size; seat++) {
                int other = bond[seat];
                if (has(other) && (bond[other] != seat || alive[other] != alive[seat])) {
                    return false;
                }
            }
            return true;
        }

        boolean isMixed() {
            return isMixed;
        }

        void swapCards(int one, int other) {
            if (one == other || !has(one) || !has(other)) {
                return;
            }
            int firstCard = card[one];
            int firstFaith = belief[one];
            int secondCard = card[other];
            int secondFaith = belief[other];
            card[one] = secondCard;
            belief[one] = book.isDrunk(secondCard) ? secondFaith : secondCard;
            card[other] = firstCard;
            belief[other] = book.isDrunk(firstCard) ? firstFaith : firstCard;
            isMixed = true;
        }

        void turn(int seat, int role) {
            if (!has(seat) || !book.has(role)) {
                return;
            }
            card[seat] = role;
            if (!book.isDrunk(role)) {
                belief[seat] = role;
            }
            isMixed = true;
        }

        /** Bonds are of two and mutual, so a death takes one more seat along at most. */
        int kill(int seat) {
            int died = die(seat);
            if (died > 0) {
                died += die(bondOf(seat));
            }
            return died;
        }

        private int die(int seat) {
            if (!isAlive(seat)) {
                return 0;
            }
            alive[seat] = false;
            if (areShown && !isMixed) {
                shownSeats = Deals.put(shownSeats, seat, Deals.MASK);
                shownCards = Deals.put(shownCards, seat, card[seat]);
            }
            return 1;
        }

        boolean isOpen(int world) {
            return (world & shownSeats) == shownCards;
        }

        int dealtWorld() {
            return dealt;
        }

        /** The next living seat in a direction, 1 or -1, or -1 if there is no other one. */
        int nextLiving(int seat, int step) {
            if (!has(seat)) {
                return -1;
            }
            int next = seat;
            for (int i = 1; i < size; i++) {
                next = around(next + step);
                if (has(next) && alive[next]) {
                    return next;
                }
            }
            return -1;
        }

        private int around(int seat) {
            if (seat < 0) {
                return size - 1;
            }
            return seat >= size ? 0 : seat;
        }
    }

    /** What was told in the nights. */
    private static final class Log {
        private final Book book;
        private final Ring ring;
        private final int[] night;
        private final int[] teller;
        private final char[] deed;
        private final int[] target;
        private final int[] told;
        private final int[] due;
        private final boolean[] sober;
        private final boolean[] unmixed;
        private final int[] left;
        private final int[] right;
        private int size;

        Log(Book roleBook, Ring seats) {
            book = roleBook;
            ring = seats;
            night = new int[MOST_TELLINGS];
            teller = new int[MOST_TELLINGS];
            deed = new char[MOST_TELLINGS];
            target = new int[MOST_TELLINGS];
            told = new int[MOST_TELLINGS];
            due = new int[MOST_TELLINGS];
            sober = new boolean[MOST_TELLINGS];
            unmixed = new boolean[MOST_TELLINGS];
            left = new int[MOST_TELLINGS];
            right = new int[MOST_TELLINGS];
        }

        void clear() {
            size = 0;
        }

        int size() {
            return size;
        }

        boolean has(int telling) {
            return telling >= 0 && telling < size;
        }

        void add(int atNight, int seat, char act, int ofWhom, int number, boolean isSober) {
            if (size >= MOST_TELLINGS) {
                return;
            }
            night[size] = atNight;
            teller[size] = seat;
            deed[size] = act;
            target[size] = ofWhom;
            told[size] = number;
            due[size] = number;
            sober[size] = isSober;
            unmixed[size] = !ring.isMixed();
            left[size] = ring.nextLiving(seat, -1);
            right[size] = ring.nextLiving(seat, 1);
            size++;
        }

        int nightOf(int telling) {
            return has(telling) ? night[telling] : 0;
        }

        int seatOf(int telling) {
            return has(telling) ? teller[telling] : -1;
        }

        char deedOf(int telling) {
            return has(telling) ? deed[telling] : '-';
        }

        int targetOf(int telling) {
            return has(telling) ? target[telling] : -1;
        }

        int numberOf(int telling) {
            return has(telling) ? told[telling] : 0;
        }

        int dueOf(int telling) {
            return has(telling) ? due[telling] : 0;
        }

        boolean wasSober(int telling) {
            return has(telling) && sober[telling];
        }

        int changeNumber(int telling, int number) {
            if (!has(telling)) {
                return 0;
            }
            int before = told[telling];
            told[telling] = number;
            return before;
        }

        int findWrong() {
            for (int telling = 0; telling < size; telling++) {
                if (told[telling] != due[telling]) {
                    return telling;
                }
            }
            return -1;
        }

        /** Whether all that a seat was told of the dealt cards is so in a world. */
        boolean areAllSo(int seat, int world) {
            for (int telling = 0; telling < size; telling++) {
                if (teller[telling] == seat && unmixed[telling] && !isSo(telling, world)) {
                    return false;
                }
            }
            return true;
        }

        private boolean isSo(int telling, int world) {
            if (!has(telling)) {
                return false;
            }
            int number = told[telling];
            if (deed[telling] == 'n') {
                int one = Deals.cardIn(world, left[telling]);
                int other = Deals.cardIn(world, right[telling]);
                return number == book.seenEvil(one) + book.seenEvil(other);
            }
            int card = Deals.cardIn(world, target[telling]);
            return number == (deed[telling] == 's' ? book.seenEvil(card) : book.seenRole(card));
        }
    }

    /** A night: the acts that were told for it, and what comes of them. */
    private static final class Dark {
        private final Book book;
        private final Ring ring;
        private final Log log;
        private final int[] target;
        private final int[] second;
        private final int[] doing;
        private final boolean[] isBlocked;
        private final boolean[] isProtected;
        private final boolean[] isAttacked;
        private final int[] turned;
        private final int[] crossOne;
        private final int[] crossOther;
        private int crossings;
        private int number;

        Dark(Book roleBook, Ring seats, Log tellingLog) {
            book = roleBook;
            ring = seats;
            log = tellingLog;
            target = new int[MOST_SEATS];
            second = new int[MOST_SEATS];
            doing = new int[MOST_SEATS];
            isBlocked = new boolean[MOST_SEATS];
            isProtected = new boolean[MOST_SEATS];
            isAttacked = new boolean[MOST_SEATS];
            turned = new int[MOST_SEATS];
            crossOne = new int[MOST_SEATS];
            crossOther = new int[MOST_SEATS];
        }

        void forget() {
            for (int seat = 0; seat < MOST_SEATS; seat++) {
                target[seat] = -1;
                second[seat] = -1;
            }
        }

        boolean tell(int seat, int newTarget, int newSecond) {
            if (!ring.has(seat)) {
                return false;
            }
            boolean isNew = target[seat] < 0;
            target[seat] = newTarget;
            second[seat] = newSecond;
            return isNew;
        }

        /** Lets the night go by up to the day, and tells how many died. */
        int pass(int nightNumber) {
            number = nightNumber;
            begin();
            for (int order = 0; order <= MOST_ORDER; order++) {
                for (int seat = 0; seat < ring.size(); seat++) {
                    if (book.orderOf(doing[seat]) == order) {
                        perform(seat);
                    }
                }
            }
            int died = killAttacked();
            turnTurned();
            forget();
            return died;
        }

        /** The roles are kept as they are now, for cards may change while the night goes by. */
        private void begin() {
            crossings = 0;
            for (int seat = 0; seat < ring.size(); seat++) {
                doing[seat] = isActing(seat) ? ring.beliefOf(seat) : -1;
                isBlocked[seat] = false;
                isProtected[seat] = false;
                isAttacked[seat] = false;
                turned[seat] = -1;
            }
        }

        private boolean isActing(int seat) {
            if (!ring.isAlive(seat)) {
                return false;
            }
            int role = ring.beliefOf(seat);
            return book.deedOf(role) == 'n' || book.hasTarget(role) && target[seat] >= 0;
        }

        private void perform(int seat) {
            int role = doing[seat];
            if (isBlocked[seat] || book.isOnce(role) && !ring.takeOnce(seat)) {
                return;
            }
            char act = book.deedOf(role);
            int met = act == 'n' ? seat : cross(target[seat]);
            if (act == 's' || act == 'l' || act == 'n') {
                hear(seat, act, met);
            } else if (ring.isSober(seat) && ring.has(met)) {
                affect(seat, act, met);
            }
        }

        private int cross(int seat) {
            int met = seat;
            for (int i = 0; i < crossings; i++) {
                if (met == crossOne[i]) {
                    met = crossOther[i];
                } else if (met == crossOther[i]) {
                    met = crossOne[i];
                }
            }
            return met;
        }

        private void affect(int seat, char act, int met) {
            switch (act) {
                case 'b':
                    isBlocked[met] = true;
                    break;
                case 'x':
                    addCrossing(target[seat], second[seat]);
                    break;
                case 'd':
                    ring.poison(met);
                    break;
                case 'p':
                    isProtected[met] = true;
                    break;
                case 'k':
                    isAttacked[met] = true;
                    break;
                case 'c':
                    turned[met] = book.turnsTo(ring.cardOf(seat));
                    break;
                case 'h':
                    ring.bind(met, second[seat]);
                    break;
                case 'w':
                    ring.swapCards(met, second[seat]);
                    break;
                default:
                    break;
            }
        }

        private void addCrossing(int one, int other) {
            if (crossings < MOST_SEATS) {
                crossOne[crossings] = one;
                crossOther[crossings] = other;
                crossings++;
            }
        }

        private void hear(int seat, char act, int met) {
            boolean isSober = ring.isSober(seat);
            int told = act == 'n' ? countEvilNeighbours(seat) : whatIsSeen(act, met);
            if (!isSober) {
                told = around(told + 1, act);
            }
            log.add(number, seat, act, act == 'n' ? seat : target[seat], told, isSober);
        }

        private int whatIsSeen(char act, int met) {
            int role = ring.cardOf(met);
            return act == 's' ? book.seenEvil(role) : book.seenRole(role);
        }

        private int countEvilNeighbours(int seat) {
            int left = ring.cardOf(ring.nextLiving(seat, -1));
            int right = ring.cardOf(ring.nextLiving(seat, 1));
            return book.seenEvil(left) + book.seenEvil(right);
        }

        /** What is not so is one more than what is so, and 0 behind the last. */
        private int around(int told, char act) {
            int end = act == 's' ? 2 : act == 'n' ? 3 : book.size();
            return told < end ? told : 0;
        }

        private int killAttacked() {
            int died = 0;
            for (int seat = 0; seat < ring.size(); seat++) {
                if (isAttacked[seat] && !isProtected[seat]) {
                    died += ring.kill(seat);
                }
            }
            return died;
        }

        private void turnTurned() {
            for (int seat = 0; seat < ring.size(); seat++) {
                if (turned[seat] >= 0 && !isProtected[seat] && ring.isAlive(seat)) {
                    ring.turn(seat, turned[seat]);
                }
            }
        }
    }

    /** A day's nominations and votes. */
    private static final class Court {
        private final boolean[] hasNominated;
        private final boolean[] wasNominated;
        private final boolean[] hasVoted;
        private int nominations;
        private int current;
        private int votes;
        private int most;
        private int condemned;
        private boolean isStopped;

        Court() {
            hasNominated = new boolean[MOST_SEATS];
            wasNominated = new boolean[MOST_SEATS];
            hasVoted = new boolean[MOST_SEATS];
        }

        void start() {
            nominations = 0;
            current = -1;
            votes = 0;
            most = 0;
            condemned = -1;
            isStopped = false;
            for (int seat = 0; seat < MOST_SEATS; seat++) {
                hasNominated[seat] = false;
                wasNominated[seat] = false;
                hasVoted[seat] = false;
            }
        }

        private static boolean has(int seat) {
            return seat >= 0 && seat < MOST_SEATS;
        }

        boolean hasNominated(int seat) {
            return has(seat) && hasNominated[seat];
        }

        boolean wasNominated(int seat) {
            return has(seat) && wasNominated[seat];
        }

        boolean hasVoted(int seat) {
            return has(seat) && hasVoted[seat];
        }

        boolean isOpen() {
            return current >= 0;
        }

        boolean isStopped() {
            return isStopped;
        }

        int condemned() {
            return condemned;
        }

        int open(int by, int seat) {
            if (has(by) && has(seat)) {
                hasNominated[by] = true;
                wasNominated[seat] = true;
                current = seat;
                votes = 0;
                nominations++;
            }
            for (int voter = 0; voter < MOST_SEATS; voter++) {
                hasVoted[voter] = false;
            }
            return nominations;
        }

        int add(int voter) {
            if (has(voter)) {
                hasVoted[voter] = true;
                votes++;
            }
            return votes;
        }

        /** Closes the open nomination, if there is one. */
        void count(int living) {
            if (current >= 0 && 2 * votes >= living) {
                if (votes > most) {
                    most = votes;
                    condemned = current;
                } else if (votes == most) {
                    condemned = -1;
                }
            }
            current = -1;
        }

        /** Ends the nominations of today by a veto, and tells whether that saved somebody. */
        boolean stop() {
            boolean wasCondemned = condemned >= 0;
            current = -1;
            condemned = -1;
            isStopped = true;
            return wasCondemned;
        }
    }

    /** What seats claim of seats: a role, or a side where the role is -1. */
    private static final class Claims {
        private final Book book;
        private final int[] claimant;
        private final int[] subject;
        private final int[] role;
        private final char[] side;
        private int size;

        Claims(Book roleBook) {
            book = roleBook;
            claimant = new int[MOST_CLAIMS];
            subject = new int[MOST_CLAIMS];
            role = new int[MOST_CLAIMS];
            side = new char[MOST_CLAIMS];
        }

        void clear() {
            size = 0;
        }

        int size() {
            return size;
        }

        int add(int by, int seat, int newRole, char newSide) {
            if (size < MOST_CLAIMS) {
                claimant[size] = by;
                subject[size] = seat;
                role[size] = newRole;
                side[size] = newSide;
                size++;
            }
            return size;
        }

        boolean areAllSo(int by, int world) {
            for (int claim = 0; claim < size; claim++) {
                if (claimant[claim] == by && !isSo(claim, world)) {
                    return false;
                }
            }
            return true;
        }

        boolean areOthersSo(int by, int world) {
            for (int claim = 0; claim < size; claim++) {
                boolean isOfOther = claimant[claim] == by && subject[claim] != by;
                if (isOfOther && !isSo(claim, world)) {
                    return false;
                }
            }
            return true;
        }

        int countLiars(int world) {
            int liars = 0;
            for (int claim = 0; claim < size; claim++) {
                if (!isSo(claim, world)) {
                    liars |= 1 << claimant[claim];
                }
            }
            return Integer.bitCount(liars);
        }

        private boolean isSo(int claim, int world) {
            if (claim < 0 || claim >= size) {
                return false;
            }
            int card = Deals.cardIn(world, subject[claim]);
            if (role[claim] >= 0) {
                return card == role[claim];
            }
            return book.isEvil(card) == (side[claim] == 'e');
        }
    }

    /** The worlds, each packed into an int with four bits a seat, and those chosen for a question. */
    private static final class Deals {
        private static final int BITS = 4;
        private static final int MASK = 15;
        private final Book book;
        private final Ring ring;
        private final Log log;
        private final int[] all;
        private final int[] chosen;
        private final int[] row;
        private int total;
        private int size;

        Deals(Book roleBook, Ring seats, Log tellingLog) {
            book = roleBook;
            ring = seats;
            log = tellingLog;
            all = new int[MOST_WAYS];
            chosen = new int[MOST_WAYS];
            row = new int[MOST_SEATS];
        }

        /** The card of a seat, or -1 for no seat, as a telling of neighbours can have none. */
        static int cardIn(int world, int seat) {
            return seat < 0 ? -1 : (world >>> (BITS * seat)) & MASK;
        }

        static int put(int world, int seat, int card) {
            return world | card << (BITS * seat);
        }

        /** Makes all worlds of a bag once, as the bag stays while the game lasts. */
        void fill(Sack sack) {
            total = 0;
            size = 0;
            long ways = sack.countWays();
            if (ways > MOST_WAYS) {
                return;
            }
            int seats = layOut(sack);
            for (int i = 0; i < MOST_WAYS && i < ways; i++) {
                all[i] = pack(seats);
                total++;
                advance(seats);
            }
        }

        private int layOut(Sack sack) {
            int seats = 0;
            for (int role = 0; role < MOST_ROLES; role++) {
                for (int same = 0; same < sack.amountOf(role) && seats < MOST_SEATS; same++) {
                    row[seats] = role;
                    seats++;
                }
            }
            return seats;
        }

        private int pack(int seats) {
            int world = 0;
            for (int seat = 0; seat < seats; seat++) {
                world = put(world, seat, row[seat]);
            }
            return world;
        }

        /** Makes the row the next one of all its orders by size, in which equal cards are one. */
        private void advance(int seats) {
            int rise = seats - 2;
            while (rise >= 0 && row[rise] >= row[rise + 1]) {
                rise--;
            }
            if (rise < 0) {
                return;
            }
            int higher = seats - 1;
            while (higher > rise && row[higher] <= row[rise]) {
                higher--;
            }
            swap(rise, higher);
            int low = rise + 1;
            int high = seats - 1;
            while (low < high) {
                swap(low, high);
                low++;
                high--;
            }
        }

        private void swap(int one, int other) {
            int card = row[one];
            row[one] = row[other];
            row[other] = card;
        }

        int chooseOpen() {
            size = 0;
            for (int i = 0; i < total; i++) {
                if (ring.isOpen(all[i])) {
                    chosen[size] = all[i];
                    size++;
                }
            }
            return size;
        }

        int chooseOf(int seat) {
            size = 0;
            for (int i = 0; i < total; i++) {
                if (isWorldOf(seat, all[i])) {
                    chosen[size] = all[i];
                    size++;
                }
            }
            return size;
        }

        private boolean isWorldOf(int seat, int world) {
            if (!ring.isOpen(world)) {
                return false;
            }
            int own = cardIn(world, seat);
            if (book.isDrunk(own)) {
                return true;
            }
            if (own != ring.firstBeliefOf(seat)) {
                return false;
            }
            return isMisled(seat, world) || log.areAllSo(seat, world);
        }

        private boolean isMisled(int seat, int world) {
            for (int other = 0; other < ring.size(); other++) {
                if (other != seat && book.isMisleading(cardIn(world, other))) {
                    return true;
                }
            }
            return false;
        }

        boolean holdDealt() {
            int dealt = ring.dealtWorld();
            for (int seat = 0; seat < ring.size(); seat++) {
                if (!isWorldOf(seat, dealt)) {
                    return false;
                }
            }
            return ring.isOpen(dealt);
        }

        int countRole(int seat, int role) {
            int count = 0;
            for (int i = 0; i < size; i++) {
                if (cardIn(chosen[i], seat) == role) {
                    count++;
                }
            }
            return count;
        }

        int countEvil(int seat) {
            int count = 0;
            for (int i = 0; i < size; i++) {
                if (book.isEvil(cardIn(chosen[i], seat))) {
                    count++;
                }
            }
            return count;
        }

        int countHonest(Claims claims, int seat) {
            int count = 0;
            for (int i = 0; i < size; i++) {
                if (claims.areAllSo(seat, chosen[i])) {
                    count++;
                }
            }
            return count;
        }

        int leastLiarsBy(Claims claims) {
            int least = MOST_SEATS;
            for (int i = 0; i < size; i++) {
                least = Math.min(least, claims.countLiars(chosen[i]));
            }
            return least;
        }

        int lowestGood(Claims claims, int seat) {
            int lowest = -1;
            for (int i = 0; i < size; i++) {
                int card = cardIn(chosen[i], seat);
                boolean isLower = !book.isEvil(card) && (lowest < 0 || card < lowest);
                if (isLower && claims.areOthersSo(seat, chosen[i])) {
                    lowest = card;
                }
            }
            return lowest;
        }
    }

    /** The ratings of the players, for each side. */
    private static final class Ranks {
        private static final int AT_FIRST = 1000;
        private static final int LEAST_DUE = 10;
        private static final int EVEN_DUE = 50;
        private static final int MOST_DUE = 90;
        private static final int NO_MEAN = -2147483648;
        private final Ring ring;
        private final int[] good;
        private final int[] evil;

        Ranks(Ring seats) {
            ring = seats;
            good = new int[PLAYERS];
            evil = new int[PLAYERS];
            for (int player = 0; player < PLAYERS; player++) {
                good[player] = AT_FIRST;
                evil[player] = AT_FIRST;
            }
        }

        int of(int player, boolean isEvil) {
            if (player < 0 || player >= PLAYERS) {
                return 0;
            }
            return isEvil ? evil[player] : good[player];
        }

        /** Both means are taken first, for all is by the ratings before. */
        void settle(boolean hasEvilWon) {
            int goodMean = mean(false);
            int evilMean = mean(true);
            for (int seat = 0; seat < ring.size(); seat++) {
                boolean isEvil = ring.isEvil(seat);
                int player = ring.playerOf(seat);
                int before = of(player, isEvil);
                int due = dueOf(before, isEvil ? goodMean : evilMean);
                int won = isEvil == hasEvilWon ? 100 : 0;
                put(player, isEvil, before + 32 * (won - due) / 100);
            }
        }

        /** The mean of the ratings of a side, or NO_MEAN if nobody has a card of it. */
        private int mean(boolean isEvil) {
            int sum = 0;
            int count = 0;
            for (int seat = 0; seat < ring.size(); seat++) {
                if (ring.isEvil(seat) == isEvil) {
                    sum += of(ring.playerOf(seat), isEvil);
                    count++;
                }
            }
            return count == 0 ? NO_MEAN : sum / count;
        }

        private static int dueOf(int before, int mean) {
            if (mean == NO_MEAN) {
                return EVEN_DUE;
            }
            return Math.max(LEAST_DUE, Math.min(MOST_DUE, EVEN_DUE + (before - mean) / 8));
        }

        private void put(int player, boolean isEvil, int rank) {
            if (player < 0 || player >= PLAYERS) {
                return;
            }
            if (isEvil) {
                evil[player] = rank;
            } else {
                good[player] = rank;
            }
        }
    }
}
