import java.util.ArrayList;
import java.util.Arrays;
import java.util.List;
import java.util.TreeSet;
import java.util.function.Supplier;

/** A council at some point of a game, and what is so then, as far as it cannot be asked for. */
final class Scene {
    final String name;
    private final Supplier<NightfallCouncil> maker;
    private final String[] roles;
    private final List<Integer> bag = new ArrayList<>();
    private final List<Integer> listed = new ArrayList<>();
    private final TreeSet<Integer> nominators = new TreeSet<>();
    private final TreeSet<Integer> nominated = new TreeSet<>();
    private final TreeSet<Integer> voters = new TreeSet<>();
    private final TreeSet<Integer> vetoed = new TreeSet<>();
    private final TreeSet<Integer> worldless = new TreeSet<>();
    private final TreeSet<Integer> bluffless = new TreeSet<>();
    private NightfallCouncil seen;
    boolean isOpen;
    boolean isVetoed;
    boolean isWrong;
    int claims;

    Scene(String name, Supplier<NightfallCouncil> maker, String... roles) {
        this.name = name;
        this.maker = maker;
        this.roles = roles;
    }

    /** A new one at this point. */
    NightfallCouncil make() {
        return maker.get();
    }

    /** One that is only asked, so that it stays as it is. */
    private NightfallCouncil seen() {
        if (seen == null) {
            seen = make();
        }
        return seen;
    }

    Scene bag(int... cards) {
        Arrays.stream(cards).forEach(bag::add);
        return this;
    }

    Scene listed(int... cards) {
        Arrays.stream(cards).forEach(listed::add);
        return this;
    }

    /** A nomination of today. */
    Scene nominated(int by, int seat) {
        nominators.add(by);
        nominated.add(seat);
        return this;
    }

    /** One of them is open, and these have voted for it. */
    Scene open(int... votes) {
        isOpen = true;
        Arrays.stream(votes).forEach(voters::add);
        return this;
    }

    /** These have vetoed, the last one today. */
    Scene vetoed(boolean isToday, int... seats) {
        isVetoed = isToday;
        Arrays.stream(seats).forEach(vetoed::add);
        return this;
    }

    Scene wrong() {
        isWrong = true;
        return this;
    }

    Scene claims(int amount) {
        claims = amount;
        return this;
    }

    Scene worldless(int... seats) {
        Arrays.stream(seats).forEach(worldless::add);
        return this;
    }

    Scene bluffless(int... seats) {
        Arrays.stream(seats).forEach(bluffless::add);
        return this;
    }

    boolean isGame() {
        return seen().state() != '-';
    }

    boolean isGoing() {
        return isNight() || isDay();
    }

    boolean isNight() {
        return seen().state() == 'n';
    }

    boolean isDay() {
        return seen().state() == 'd';
    }

    boolean isRole(int role) {
        return role >= 0 && role < roles.length;
    }

    boolean isDrunk(int role) {
        return isRole(role) && roles[role].endsWith("d");
    }

    boolean isSeat(int seat) {
        return seat >= 0 && seat < seats();
    }

    int roles() {
        return roles.length;
    }

    int seats() {
        return isGame() ? bag.size() : 0;
    }

    int bagged() {
        return bag.size();
    }

    boolean isAllListed() {
        return listed.size() == bag.size();
    }

    boolean hasMore(int role) {
        return listed.stream().filter(card -> card == role).count() < bag.stream().filter(card -> card == role).count();
    }

    boolean isAlive(int seat) {
        return isSeat(seat) && seen().seat(seat, 'l') == 1;
    }

    boolean hasGhost(int seat) {
        return isSeat(seat) && seen().seat(seat, 'g') == 1;
    }

    boolean isPlayer(int player) {
        return player >= 0 && player <= 7;
    }

    boolean sitsElsewhere(int seat, int player) {
        NightfallCouncil x = seen();
        for (int other = 0; other < seats(); other++) {
            if (other != seat && x.seat(other, 'w') == player) {
                return true;
            }
        }
        return false;
    }

    /** The act of the role in which a seat believes; ' ' for no seat. */
    char actOf(int seat) {
        return isSeat(seat) ? roles[seen().seat(seat, 'b')].charAt(1) : ' ';
    }

    boolean hasSecond(int seat) {
        return "xhw".indexOf(actOf(seat)) >= 0;
    }

    boolean hasNominated(int seat) {
        return nominators.contains(seat);
    }

    boolean wasNominated(int seat) {
        return nominated.contains(seat);
    }

    boolean hasVoted(int seat) {
        return voters.contains(seat);
    }

    boolean canVeto(int seat) {
        NightfallCouncil x = seen();
        return isAlive(seat) && x.seat(seat, 'p') == 0 && roles[x.seat(seat, 'c')].endsWith("v")
                && !vetoed.contains(seat);
    }

    boolean isTelling(int telling) {
        return isGame() && telling >= 0 && telling < seen().tellings();
    }

    boolean isMany() {
        return seen().ways() > 2000;
    }

    boolean hasLivingOther(int seat) {
        NightfallCouncil x = seen();
        return x.living() > (x.seat(seat, 'l') == 1 ? 1 : 0);
    }

    boolean isWorldless(int seat) {
        return worldless.contains(seat);
    }

    boolean isBluffless(int seat) {
        return bluffless.contains(seat);
    }

    boolean isAnyAlive() {
        return seen().living() > 0;
    }
}
