import java.util.ArrayList;
import java.util.Comparator;
import java.util.List;
import java.util.regex.Matcher;
import java.util.regex.Pattern;
import java.util.stream.IntStream;

/** The document once more, told with the Java library and without a thought of cost: what ModelTest compares with. */
final class Model {
    private static final Pattern TEXT = Pattern.compile("COMMAND(;COMMAND)*".replace("COMMAND",
            "(star \\d \\d|roof \\d\\d?|cloud \\d \\d|sight \\d[a-h]|claim \\d[a-h]|drop [a-h]|wish \\d[a-h]\\d"
            + "|pay \\d \\d\\d?|pound \\d|redeem \\d|stay \\d \\d|dawn)"));

    private record Star(int number, int brightness, int sector) {
    }

    private static final class Roof {
        int coins;
        int debt;
        int stay;
        int granted;
        int forfeited;
        List<Integer> sighted = new ArrayList<>();
        List<Integer> wishable = new ArrayList<>();

        Roof copy() {
            Roof copy = new Roof();
            copy.coins = coins;
            copy.debt = debt;
            copy.stay = stay;
            copy.granted = granted;
            copy.forfeited = forfeited;
            copy.sighted = new ArrayList<>(sighted);
            copy.wishable = new ArrayList<>(wishable);
            return copy;
        }
    }

    private static final class Wish {
        int roof;
        Star star;
        int kind;
        int age;
        boolean isImpounded;
        int nights;

        Wish copy() {
            Wish copy = new Wish();
            copy.roof = roof;
            copy.star = star;
            copy.kind = kind;
            copy.age = age;
            copy.isImpounded = isImpounded;
            copy.nights = nights;
            return copy;
        }

        int cost() {
            return star.brightness + nights;
        }
    }

    private static final class World {
        List<Star> stars = new ArrayList<>();
        List<Roof> roofs = new ArrayList<>();
        List<Wish> wishes = new ArrayList<>();
        int[] clouds = new int[4];
        int[] claims = new int[8];
        int[] sightings = new int[8];
        int nights;
        int exempt;
        int levied;
        int paid;

        World copy() {
            World copy = new World();
            copy.stars.addAll(stars);
            roofs.forEach(roof -> copy.roofs.add(roof.copy()));
            wishes.forEach(wish -> copy.wishes.add(wish.copy()));
            copy.clouds = clouds.clone();
            copy.claims = claims.clone();
            copy.sightings = sightings.clone();
            copy.nights = nights;
            copy.exempt = exempt;
            copy.levied = levied;
            copy.paid = paid;
            return copy;
        }
    }

    private World now = new World();
    private World kept;
    private List<World> past = new ArrayList<>();
    private String input = "";
    private String line = "";
    private int fault = -4;
    private int[] why = {-4, -4, -4, -4};

    /** Calls a method of the face by its name. */
    double call(String name, int a, int b, int d) {
        switch (name) {
            case "clear": return clear();
            case "append": return append((char) a);
            case "read": return read();
            case "fault": return fault;
            case "reason": return a < 0 || a > 1 ? -2 : why[2 * a + (b % 2 != 0 ? 1 : 0)];
            case "undo": return undo();
            case "save": kept = now.copy(); return now.stars.size();
            case "restore": return restore();
            default: return isChange(name) ? change(name, a, b, d) : answer(name, a, b);
        }
    }

    private static boolean isChange(String name) {
        return List.of("star", "roof", "cloud", "sight", "claim", "drop", "wish", "pay", "pound", "redeem", "stay",
                "dawn").contains(name);
    }

    private int clear() {
        int stars = now.stars.size();
        now = new World();
        past.clear();
        return stars;
    }

    private int append(char character) {
        if (character < ' ' || character > '~' || input.length() == 60) {
            return -2;
        }
        input += character;
        return input.length();
    }

    private void remember(World before) {
        past.add(before);
        if (past.size() > 8) {
            past.remove(0);
        }
    }

    private int change(String name, int a, int b, int d) {
        World before = now.copy();
        int code = act(name, a, b, d);
        if (code >= 0) {
            remember(before);
        }
        return code;
    }

    private int undo() {
        if (past.isEmpty()) {
            return -4;
        }
        now = past.remove(past.size() - 1);
        return past.size();
    }

    private int restore() {
        if (kept == null) {
            return -4;
        }
        now = kept.copy();
        past.clear();
        return now.stars.size();
    }

    private int refuse(int reason, int detail) {
        why = new int[] {reason, detail, -4, -4};
        return -3;
    }

    private int read() {
        String text = input;
        input = "";
        if (!TEXT.matcher(text).matches()) {
            fault = faultOf(text);
            return -2;
        }
        World before = now.copy();
        String[] commands = text.split(";");
        for (int i = 0; i < commands.length; i++) {
            int code = actByWords(commands[i]);
            if (code < 0) {
                now = before;
                int[] behind = why;
                refuse(code == -3 ? 13 : 14, i);
                if (code == -3) {
                    why = new int[] {13, i, behind[0], behind[1]};
                }
                return -3;
            }
        }
        remember(before);
        return commands.length;
    }

    private static int faultOf(String text) {
        for (int length = 1; length <= text.length(); length++) {
            Matcher matcher = TEXT.matcher(text.substring(0, length));
            if (!matcher.matches() && !matcher.hitEnd()) {
                return length - 1;
            }
        }
        return text.length();
    }

    private int actByWords(String command) {
        String[] parts = command.split(" ", 2);
        if (parts.length == 1) {
            return act(parts[0], 0, 0, 0);
        }
        int[] numbers = new int[3];
        Matcher matcher = Pattern.compile("\\d+|[a-h]").matcher(
                parts[0].equals("wish") ? parts[1].replaceAll("(.)(.)(.)", "$1 $2 $3") : parts[1]);
        for (int i = 0; matcher.find(); i++) {
            String part = matcher.group();
            numbers[i] = Character.isDigit(part.charAt(0)) ? Integer.parseInt(part) : part.charAt(0) - 'a';
        }
        return act(parts[0], numbers[0], numbers[1], numbers[2]);
    }

    private boolean noStar(int star) {
        return star < 0 || star >= now.stars.size();
    }

    private boolean noRoof(int roof) {
        return roof < 0 || roof >= now.roofs.size();
    }

    private static boolean no(int number, int least, int most) {
        return number < least || number > most;
    }

    private boolean isSeen(Star star) {
        return star.brightness > now.clouds[star.sector];
    }

    private int act(String name, int a, int b, int d) {
        switch (name) {
            case "star": return star(a, b);
            case "roof": return roof(a);
            case "cloud": return cloud(a, b);
            case "sight": return sight(a, b);
            case "claim": return claim(a, b);
            case "drop": return drop(a);
            case "wish": return wish(a, b, d);
            case "pay": return pay(a, b);
            case "pound": return pound(a);
            case "redeem": return redeem(a);
            case "stay": return stay(a, b);
            default: return dawn();
        }
    }

    private int star(int brightness, int sector) {
        if (no(sector, 0, 3)) {
            return -1;
        }
        if (no(brightness, 1, 9)) {
            return -2;
        }
        if (now.stars.size() == 8) {
            return refuse(1, 8);
        }
        now.stars.add(new Star(now.stars.size(), brightness, sector));
        now.claims[now.stars.size() - 1] = -4;
        return now.stars.size() - 1;
    }

    private int roof(int coins) {
        if (no(coins, 0, 99)) {
            return -2;
        }
        if (now.roofs.size() == 5) {
            return refuse(1, 5);
        }
        Roof roof = new Roof();
        roof.coins = coins;
        now.roofs.add(roof);
        return now.roofs.size() - 1;
    }

    private int cloud(int sector, int cloud) {
        if (no(sector, 0, 3)) {
            return -1;
        }
        if (no(cloud, 0, 9)) {
            return -2;
        }
        int before = now.clouds[sector];
        if (before == cloud) {
            return refuse(2, cloud);
        }
        now.clouds[sector] = cloud;
        return before;
    }

    private int levy(int roof, int star) {
        boolean isFree = !isSeen(now.stars.get(star)) || now.claims[star] == roof;
        return isFree ? 0 : now.stars.get(star).brightness;
    }

    private int sight(int number, int star) {
        if (noRoof(number) || noStar(star)) {
            return -1;
        }
        Roof roof = now.roofs.get(number);
        if (roof.sighted.contains(star)) {
            return refuse(3, roof.sighted.size());
        }
        roof.sighted.add(star);
        now.sightings[star]++;
        if (!isSeen(now.stars.get(star))) {
            now.exempt++;
            return 0;
        }
        roof.wishable.add(star);
        int levy = levy(number, star);
        int rest = levy;
        while (rest > 0 && roof.coins > 0) {
            rest--;
            roof.coins--;
        }
        roof.debt += rest;
        now.levied += levy;
        now.paid += levy - rest;
        if (now.claims[star] >= 0 && now.claims[star] != number) {
            now.roofs.get(now.claims[star]).coins += (levy - rest) / 2;
        }
        return levy;
    }

    private int claim(int roof, int star) {
        if (noRoof(roof) || noStar(star)) {
            return -1;
        }
        if (now.claims[star] >= 0) {
            return refuse(5, now.claims[star]);
        }
        int lacking = 2 * now.stars.get(star).brightness - now.roofs.get(roof).coins;
        if (lacking > 0) {
            return refuse(6, lacking);
        }
        now.roofs.get(roof).coins = -lacking;
        now.claims[star] = roof;
        return 2 * now.stars.get(star).brightness;
    }

    private int drop(int star) {
        if (noStar(star)) {
            return -1;
        }
        int claimant = now.claims[star];
        now.claims[star] = -4;
        return claimant < 0 ? refuse(7, star) : claimant;
    }

    private int wish(int roof, int star, int kind) {
        if (noRoof(roof) || noStar(star)) {
            return -1;
        }
        if (no(kind, 0, 9)) {
            return -2;
        }
        if (!now.roofs.get(roof).wishable.contains(star)) {
            return refuse(4, now.roofs.get(roof).wishable.size());
        }
        if (now.wishes.size() == 8) {
            return refuse(1, 8);
        }
        Wish wish = new Wish();
        wish.roof = roof;
        wish.star = now.stars.get(star);
        wish.kind = kind;
        now.wishes.add(wish);
        return now.wishes.size() - 1;
    }

    private int pay(int number, int coins) {
        if (noRoof(number)) {
            return -1;
        }
        if (no(coins, 1, 99)) {
            return -2;
        }
        Roof roof = now.roofs.get(number);
        if (roof.coins < coins) {
            return refuse(6, coins - roof.coins);
        }
        if (roof.debt < coins) {
            return refuse(8, roof.debt);
        }
        roof.coins -= coins;
        roof.debt -= coins;
        now.paid += coins;
        return roof.debt;
    }

    private int pound(int number) {
        if (noRoof(number)) {
            return -1;
        }
        Roof roof = now.roofs.get(number);
        if (roof.stay != 0) {
            return refuse(9, roof.stay);
        }
        if (roof.debt <= 9) {
            return refuse(10, roof.debt);
        }
        List<Wish> free = now.wishes.stream().filter(w -> w.roof == number && !w.isImpounded).toList();
        if (free.isEmpty()) {
            return refuse(11, (int) now.wishes.stream().filter(w -> w.roof == number).count());
        }
        free.forEach(wish -> wish.isImpounded = true);
        return free.size();
    }

    private int redeem(int number) {
        if (no(number, 0, now.wishes.size() - 1)) {
            return -1;
        }
        Wish wish = now.wishes.get(number);
        if (!wish.isImpounded) {
            return refuse(12, wish.age);
        }
        Roof roof = now.roofs.get(wish.roof);
        int cost = wish.cost();
        if (roof.coins < cost) {
            return refuse(6, cost - roof.coins);
        }
        roof.coins -= cost;
        wish.isImpounded = false;
        wish.nights = 0;
        return cost;
    }

    private int stay(int roof, int nights) {
        if (noRoof(roof)) {
            return -1;
        }
        if (no(nights, 0, 9)) {
            return -2;
        }
        int before = now.roofs.get(roof).stay;
        if (before == nights) {
            return refuse(2, nights);
        }
        now.roofs.get(roof).stay = nights;
        return before;
    }

    private int dawn() {
        List<Wish> left = new ArrayList<>();
        int granted = 0;
        for (Wish wish : now.wishes) {
            if (wish.isImpounded) {
                wish.nights++;
                if (wish.nights == 3) {
                    now.roofs.get(wish.roof).forfeited++;
                } else {
                    left.add(wish);
                }
            } else if (isSeen(wish.star)) {
                now.roofs.get(wish.roof).granted++;
                granted++;
            } else {
                wish.age++;
                left.add(wish);
            }
        }
        now.wishes = left;
        for (int sector = 0; sector < 4; sector++) {
            now.clouds[sector] -= now.clouds[sector] > 0 ? 1 : 0;
        }
        for (Roof roof : now.roofs) {
            roof.stay -= roof.stay > 0 ? 1 : 0;
            roof.sighted.clear();
            roof.wishable.clear();
        }
        now.nights++;
        return granted;
    }

    private double answer(String name, int a, int b) {
        switch (name) {
            case "starOf": return noStar(a) ? -1 : starOf(a, b);
            case "roofOf": return noRoof(a) ? -1 : roofOf(a, b);
            case "wishOf": return no(a, 0, now.wishes.size() - 1) ? -1 : wishOf(now.wishes.get(a), b);
            case "cloudOf": return no(a, 0, 3) ? -1 : now.clouds[a];
            case "debt": case "debtAgain": return noRoof(a) ? -1 : now.roofs.get(a).debt;
            case "seen": case "seenAgain": return no(a, 0, 3) ? -1
                    : now.stars.stream().filter(s -> s.sector == a && isSeen(s)).count();
            case "levy": return noRoof(a) || noStar(b) ? -1 : levy(a, b);
            case "could": case "couldAgain": return noRoof(a) ? -1 : could(a);
            case "brightens": return no(a, 0, 3) ? -1 : brightens(a);
            case "cheapest": return noRoof(a) ? -1 : cheapest(a);
            case "wouldGrant": return now.wishes.stream().filter(w -> !w.isImpounded && isSeen(w.star)).count();
            case "richest": return place(roofs(), a);
            case "brightest": return place(stars(), a);
            case "write": return noRoof(a) ? -1 : write(a);
            case "writeSky": return no(a, 0, 3) ? -1 : writeSky(a);
            case "written": return no(a, 0, line.length() - 1) ? -1 : line.charAt(a);
            case "isWell": return 1;
            case "meanCloud": return IntStream.of(now.clouds).sum() / 4.0;
            case "poundShare": return now.wishes.isEmpty() ? 0
                    : (float) impounded(-1) / (float) now.wishes.size();
            case "account": return account(a);
            default: throw new IllegalArgumentException(name);
        }
    }

    private int wishesOf(int roof) {
        return (int) now.wishes.stream().filter(w -> w.roof == roof).count();
    }

    private int impounded(int roof) {
        return (int) now.wishes.stream().filter(w -> w.isImpounded && (roof < 0 || w.roof == roof)).count();
    }

    private int starOf(int star, int what) {
        switch (what) {
            case 0: return now.stars.get(star).brightness;
            case 1: return now.stars.get(star).sector;
            case 2: return isSeen(now.stars.get(star)) ? 1 : 0;
            case 3: return now.claims[star];
            case 4: return now.sightings[star];
            case 5: return (int) now.wishes.stream().filter(w -> w.star.number == star).count();
            default: return -2;
        }
    }

    private static int set(List<Integer> members) {
        return members.stream().mapToInt(member -> (int) Math.pow(2, member)).sum();
    }

    private int roofOf(int number, int what) {
        Roof roof = now.roofs.get(number);
        switch (what) {
            case 0: return roof.coins;
            case 1: return roof.stay;
            case 2: return wishesOf(number);
            case 3: return impounded(number);
            case 4: return roof.granted;
            case 5: return roof.forfeited;
            case 6: return (int) now.stars.stream().filter(s -> now.claims[s.number] == number).count();
            case 7: return set(roof.sighted);
            case 8: return set(roof.wishable);
            default: return -2;
        }
    }

    private int wishOf(Wish wish, int what) {
        switch (what) {
            case 0: return wish.roof;
            case 1: return wish.star.number;
            case 2: return wish.kind;
            case 3: return wish.age;
            case 4: return wish.isImpounded ? wish.nights : -4;
            case 5: return wish.isImpounded ? wish.cost() : -4;
            default: return -2;
        }
    }

    private int could(int roof) {
        int left = now.roofs.get(roof).coins;
        int count = 0;
        for (int cost : now.wishes.stream().filter(w -> w.roof == roof && w.isImpounded).mapToInt(Wish::cost)
                .sorted().toArray()) {
            left -= cost;
            count += left >= 0 ? 1 : 0;
        }
        return count;
    }

    private int brightens(int sector) {
        int dawns = 0;
        while (!allSeen(sector, now.clouds[sector] - dawns)) {
            dawns++;
        }
        return dawns;
    }

    private boolean allSeen(int sector, int cloud) {
        return now.stars.stream().filter(s -> s.sector == sector).allMatch(s -> s.brightness > cloud);
    }

    private int cheapest(int roof) {
        return now.stars.stream().filter(s -> isSeen(s) && !now.roofs.get(roof).sighted.contains(s.number))
                .min(Comparator.comparingInt((Star s) -> levy(roof, s.number)).thenComparingInt(s -> -s.brightness)
                        .thenComparingInt(Star::number))
                .map(Star::number).orElse(-4);
    }

    private List<Integer> roofs() {
        return IntStream.range(0, now.roofs.size()).boxed().sorted(Comparator
                .comparingInt((Integer r) -> now.roofs.get(r).debt - now.roofs.get(r).coins)
                .thenComparingInt(this::wishesOf)).toList();
    }

    private List<Integer> stars() {
        return IntStream.range(0, now.stars.size()).boxed().sorted(Comparator
                .comparingInt((Integer s) -> -now.stars.get(s).brightness)
                .thenComparingInt(s -> -now.sightings[s])).toList();
    }

    private static int place(List<Integer> order, int place) {
        return no(place, 0, order.size() - 1) ? -1 : order.get(place);
    }

    private int write(int number) {
        Roof roof = now.roofs.get(number);
        line = number + "$" + roof.coins + part("-", roof.debt) + part("s", roof.stay) + part("w", wishesOf(number));
        return line.length();
    }

    private static String part(String sign, int number) {
        return number > 0 ? sign + number : "";
    }

    private int writeSky(int sector) {
        StringBuilder letters = new StringBuilder();
        for (Star star : now.stars) {
            if (star.sector == sector) {
                letters.append((isSeen(star) ? "ABCDEFGH" : "abcdefgh").charAt(star.number));
            }
        }
        line = letters + part("~", now.clouds[sector]);
        return line.length();
    }

    private int account(int what) {
        switch (what) {
            case 0: return now.stars.size();
            case 1: return now.roofs.size();
            case 2: return now.wishes.size();
            case 3: return impounded(-1);
            case 4: return (int) now.stars.stream().filter(s -> now.claims[s.number] >= 0).count();
            case 5: return now.nights;
            case 6: return IntStream.of(now.sightings).sum();
            case 7: return now.exempt;
            case 8: return now.levied;
            case 9: return now.paid;
            case 10: return now.roofs.stream().mapToInt(r -> r.granted).sum();
            case 11: return now.roofs.stream().mapToInt(r -> r.forfeited).sum();
            case 12: return input.length();
            case 13: return past.size();
            default: return -2;
        }
    }
}
