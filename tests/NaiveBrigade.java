import java.util.ArrayDeque;
import java.util.ArrayList;
import java.util.Arrays;
import java.util.Collections;
import java.util.Deque;
import java.util.HashMap;
import java.util.HashSet;
import java.util.List;
import java.util.Map;
import java.util.NoSuchElementException;
import java.util.Set;

/**
 * The document once more, as plainly as it can be said: minute by minute, crew by crew, with copies of everything.
 * It shares no code and no way of reckoning with the class, so that random runs can compare the two.
 */
public final class NaiveBrigade {
    static final class TextError extends Exception {
        private static final long serialVersionUID = 1L;
        final int code;
        final int position;

        TextError(int code, int position) {
            this.code = code;
            this.position = position;
        }
    }

    record Token(String sort, String text, int position) {
    }

    record PersonSaid(String name, int travel, Set<String> skills) {
    }

    record PagerSaid(String name, int demand, int hours, List<Integer> rotation) {
    }

    record EngineSaid(String name, int drive, List<String> posts) {
    }

    record KindSaid(String name, int duration, int patience, int need, List<Integer> pagers, List<Integer> engines) {
    }

    static final class Said {
        int begin;
        int end;
        int wake;
        int limit;
        final List<PersonSaid> persons = new ArrayList<>();
        final Map<List<Integer>, Integer> trusts = new HashMap<>();
        final List<PagerSaid> pagers = new ArrayList<>();
        final List<EngineSaid> engines = new ArrayList<>();
        final List<KindSaid> kinds = new ArrayList<>();

        List<String> names(int sort) {
            List<String> names = new ArrayList<>();
            if (sort == 0) {
                persons.forEach(p -> names.add(p.name));
            } else if (sort == 1) {
                pagers.forEach(p -> names.add(p.name));
            } else if (sort == 2) {
                engines.forEach(e -> names.add(e.name));
            } else {
                kinds.forEach(k -> names.add(k.name));
            }
            return names;
        }
    }

    static final class Parser {
        private final String text;
        private final List<Token> tokens = new ArrayList<>();
        private int at = 0;
        private final Said said = new Said();

        Parser(String text) {
            this.text = text;
            int from = 0;
            while (from < text.length()) {
                String rest = text.substring(from);
                String word = rest.replaceFirst("(?s)^([a-z]*).*$", "$1");
                String digits = rest.replaceFirst("(?s)^([0-9]*).*$", "$1");
                if (!word.isEmpty()) {
                    tokens.add(new Token("word", word, from));
                    from += word.length();
                } else if (!digits.isEmpty()) {
                    tokens.add(new Token(digits.length() > 5 ? "bad" : "number", digits, from));
                    from += digits.length();
                } else if (rest.charAt(0) == ' ' || rest.charAt(0) == '\n') {
                    from++;
                } else {
                    boolean known = rest.charAt(0) == ';' || rest.charAt(0) == ':';
                    tokens.add(new Token(known ? "symbol" : "bad", rest.substring(0, 1), from));
                    from++;
                }
            }
            tokens.add(new Token("end", "", text.length()));
        }

        Said parse() throws TextError {
            fixed("night");
            said.begin = number(0, 23);
            int position = now().position;
            said.end = number(0, 23);
            if (said.end == said.begin) {
                throw new TextError(2, position);
            }
            said.wake = number(0, 30);
            said.limit = number(1, 999);
            fixed(";");
            while (isNext("person")) {
                person();
            }
            while (isNext("trust")) {
                trust();
            }
            while (isNext("pager")) {
                pager();
            }
            while (isNext("engine")) {
                engine();
            }
            while (isNext("kind")) {
                kind();
            }
            if (!now().sort.equals("end")) {
                throw new TextError(1, now().position);
            }
            return said;
        }

        private Token now() {
            return tokens.get(at);
        }

        private boolean isNext(String what) {
            return now().text.equals(what) && !now().sort.equals("bad");
        }

        private void fixed(String what) throws TextError {
            if (!isNext(what)) {
                throw new TextError(1, now().position);
            }
            at++;
        }

        private void keyword(String what, int size, int room) throws TextError {
            if (size == room) {
                throw new TextError(5, now().position);
            }
            fixed(what);
        }

        private int number(int least, int most) throws TextError {
            if (!now().sort.equals("number")) {
                throw new TextError(1, now().position);
            }
            int value = Integer.parseInt(now().text);
            if (value < least || value > most) {
                throw new TextError(2, now().position);
            }
            at++;
            return value;
        }

        private String name() throws TextError {
            if (!now().sort.equals("word") || now().text.length() > 8) {
                throw new TextError(1, now().position);
            }
            return tokens.get(at++).text;
        }

        private String newName(int sort) throws TextError {
            int position = now().position;
            String name = name();
            if (said.names(sort).contains(name)) {
                throw new TextError(3, position);
            }
            return name;
        }

        private int known(int sort) throws TextError {
            int position = now().position;
            int number = said.names(sort).indexOf(name());
            if (number < 0) {
                throw new TextError(4, position);
            }
            return number;
        }

        private void person() throws TextError {
            keyword("person", said.persons.size(), 12);
            String name = newName(0);
            int travel = number(0, 120);
            Set<String> skills = new HashSet<>();
            while (!isNext(";")) {
                if (!now().sort.equals("word") || !List.of("chief", "driver", "medic", "smoke").contains(now().text)) {
                    throw new TextError(1, now().position);
                }
                if (!skills.add(now().text)) {
                    throw new TextError(3, now().position);
                }
                at++;
            }
            fixed(";");
            said.persons.add(new PersonSaid(name, travel, skills));
        }

        private void trust() throws TextError {
            keyword("trust", said.trusts.size(), 24);
            int first = known(0);
            int position = now().position;
            int second = known(0);
            if (said.trusts.containsKey(List.of(first, second))) {
                throw new TextError(3, position);
            }
            if (first == second) {
                throw new TextError(6, position);
            }
            said.trusts.put(List.of(first, second), number(0, 9));
            fixed(";");
        }

        private void pager() throws TextError {
            keyword("pager", said.pagers.size(), 6);
            String name = newName(1);
            int demand = number(0, 9);
            int hours = number(1, 168);
            List<Integer> rotation = new ArrayList<>();
            do {
                int position = now().position;
                int person = known(0);
                if (rotation.size() == 8) {
                    throw new TextError(5, position);
                }
                rotation.add(person);
            } while (!isNext(";"));
            fixed(";");
            said.pagers.add(new PagerSaid(name, demand, hours, rotation));
        }

        private void engine() throws TextError {
            keyword("engine", said.engines.size(), 5);
            String name = newName(2);
            int drive = number(0, 120);
            List<String> posts = new ArrayList<>();
            do {
                Token post = now();
                if (!post.sort.equals("word")
                        || !List.of("any", "chief", "driver", "medic", "smoke").contains(post.text)) {
                    throw new TextError(1, post.position);
                }
                if (posts.size() == 6) {
                    throw new TextError(5, post.position);
                }
                posts.add(post.text);
                at++;
            } while (!isNext(";"));
            fixed(";");
            said.engines.add(new EngineSaid(name, drive, posts));
        }

        private void kind() throws TextError {
            keyword("kind", said.kinds.size(), 6);
            String name = newName(3);
            int duration = number(1, 999);
            int patience = number(0, 240);
            int need = number(1, 5);
            fixed(":");
            List<Integer> pagers = different(1, ":");
            fixed(":");
            List<Integer> engines = different(2, ";");
            fixed(";");
            said.kinds.add(new KindSaid(name, duration, patience, need, pagers, engines));
        }

        private List<Integer> different(int sort, String close) throws TextError {
            List<Integer> numbers = new ArrayList<>();
            do {
                int position = now().position;
                int number = known(sort);
                if (numbers.contains(number)) {
                    throw new TextError(3, position);
                }
                numbers.add(number);
            } while (!isNext(close));
            return numbers;
        }
    }

    static final class HandOn {
        final int person;
        final int end;

        HandOn(int person, int end) {
            this.person = person;
            this.end = end;
        }
    }

    record Leaver(int engine, int time, List<Integer> crew) {
    }

    record Told(int cost, boolean answered, int came, List<Leaver> leavers) {
    }

    static final class World {
        final Said said;
        int time = 0;
        int[] lost;
        int[] outUntil;
        int[] pay;
        boolean[] excused;
        int[][] trust;
        List<List<Integer>> rotations = new ArrayList<>();
        List<List<HandOn>> handOns = new ArrayList<>();
        int[] returns;
        List<List<Integer>> crews = new ArrayList<>();
        boolean[] service;
        List<Told> calls = new ArrayList<>();

        World(Said said) {
            this.said = said;
            int persons = said.persons.size();
            lost = new int[persons];
            outUntil = new int[persons];
            pay = new int[persons];
            excused = new boolean[persons];
            trust = new int[persons][persons];
            said.trusts.forEach((pair, level) -> trust[pair.get(0)][pair.get(1)] = level);
            for (PagerSaid pager : said.pagers) {
                rotations.add(new ArrayList<>(pager.rotation));
                handOns.add(new ArrayList<>());
            }
            returns = new int[said.engines.size()];
            service = new boolean[said.engines.size()];
            Arrays.fill(service, true);
            for (int e = 0; e < said.engines.size(); e++) {
                crews.add(List.of());
            }
        }

        World copy() {
            World copy = new World(said);
            copy.time = time;
            copy.lost = lost.clone();
            copy.outUntil = outUntil.clone();
            copy.pay = pay.clone();
            copy.excused = excused.clone();
            for (int p = 0; p < trust.length; p++) {
                copy.trust[p] = trust[p].clone();
            }
            for (int p = 0; p < rotations.size(); p++) {
                copy.rotations.set(p, new ArrayList<>(rotations.get(p)));
                copy.handOns.set(p, new ArrayList<>(handOns.get(p)));
            }
            copy.returns = returns.clone();
            copy.crews = new ArrayList<>(crews);
            copy.service = service.clone();
            copy.calls = new ArrayList<>(calls);
            return copy;
        }

        boolean isNight(int minute) {
            int hour = minute / 60 % 24;
            for (int h = said.begin; h != said.end; h = (h + 1) % 24) {
                if (h == hour) {
                    return true;
                }
            }
            return false;
        }

        boolean out(int person) {
            return time < outUntil[person];
        }

        boolean engineOut(int engine) {
            return time < returns[engine];
        }

        boolean tired(int person) {
            return lost[person] >= said.limit;
        }

        int arrival(int person) {
            return said.persons.get(person).travel + (isNight(time) ? said.wake : 0);
        }

        int turn(int pager) {
            return time / (60 * said.pagers.get(pager).hours);
        }

        int turnEnd(int pager) {
            return (turn(pager) + 1) * 60 * said.pagers.get(pager).hours;
        }

        int presentPlace(int pager) {
            return turn(pager) % rotations.get(pager).size();
        }

        List<Integer> chain(int pager) {
            List<Integer> chain = new ArrayList<>();
            chain.add(rotations.get(pager).get(presentPlace(pager)));
            for (HandOn h : handOns.get(pager)) {
                chain.add(h.person);
            }
            return chain;
        }

        int holder(int pager) {
            List<Integer> chain = chain(pager);
            return chain.get(chain.size() - 1);
        }

        int holdingEnd(int pager) {
            List<HandOn> all = handOns.get(pager);
            return all.isEmpty() ? turnEnd(pager) : all.get(all.size() - 1).end;
        }

        int whyNot(int pager, int person, int until) {
            List<Integer> chain = chain(pager);
            boolean distrusted = false;
            for (int one : chain) {
                distrusted |= one != person && trust[one][person] < said.pagers.get(pager).demand;
            }
            boolean[] reasons = {
                out(holder(pager)), chain.contains(person), excused[person], out(person), tired(person), distrusted,
                handOns.get(pager).size() == 3, !(until > time && until <= holdingEnd(pager))};
            for (int r = 0; r < 8; r++) {
                if (reasons[r]) {
                    return r + 1;
                }
            }
            return 0;
        }

        /** One minute. Returns how many engines return at its end. */
        int tick() {
            if (isNight(time)) {
                for (int p = 0; p < lost.length; p++) {
                    lost[p] = out(p) ? lost[p] + 1 : Math.max(0, lost[p] - 1);
                }
            }
            boolean[] wasOut = new boolean[returns.length];
            for (int e = 0; e < returns.length; e++) {
                wasOut[e] = engineOut(e);
            }
            time++;
            int returned = 0;
            for (int e = 0; e < returns.length; e++) {
                if (wasOut[e] && !engineOut(e)) {
                    returned++;
                    for (int a : crews.get(e)) {
                        for (int b : crews.get(e)) {
                            if (a != b && trust[a][b] < 9) {
                                trust[a][b]++;
                            }
                        }
                    }
                }
            }
            for (List<HandOn> all : handOns) {
                all.removeIf(h -> h.end <= time);
            }
            return returned;
        }

        int ticks(int minutes) {
            int returned = 0;
            for (int m = 0; m < minutes; m++) {
                returned += tick();
            }
            return returned;
        }

        int whyAbsent(KindSaid kind, int person) {
            boolean holds = false;
            for (int pager : kind.pagers) {
                holds |= holder(pager) == person;
            }
            boolean[] reasons = {!holds, excused[person], out(person), tired(person), arrival(person) > kind.patience};
            for (int r = 0; r < 5; r++) {
                if (reasons[r]) {
                    return r + 1;
                }
            }
            return 0;
        }

        boolean canMan(int person, String post) {
            return post.equals("any") || said.persons.get(person).skills.contains(post);
        }

        /** All ways, in order, of choosing so many of some persons. */
        static void choose(List<Integer> from, int size, int at, List<Integer> chosen, List<List<Integer>> all) {
            if (chosen.size() == size) {
                all.add(new ArrayList<>(chosen));
                return;
            }
            for (int i = at; i < from.size(); i++) {
                chosen.add(from.get(i));
                choose(from, size, i + 1, chosen, all);
                chosen.remove(chosen.size() - 1);
            }
        }

        /** The first way in which these persons man the posts, all of them; null if there is none. */
        List<Integer> firstWay(List<Integer> persons, List<String> posts, List<Integer> way) {
            if (way.size() == posts.size()) {
                return new ArrayList<>(way);
            }
            for (int p : persons) {
                if (!way.contains(p) && canMan(p, posts.get(way.size()))) {
                    way.add(p);
                    List<Integer> found = firstWay(persons, posts, way);
                    way.remove(way.size() - 1);
                    if (found != null) {
                        return found;
                    }
                }
            }
            return null;
        }

        /** The greatest number of posts that can be manned, post by post, over all sets of persons used so far. */
        int mostManned(List<Integer> persons, List<String> posts) {
            Map<Integer, Integer> best = new HashMap<>();
            best.put(0, 0);
            for (String post : posts) {
                Map<Integer, Integer> next = new HashMap<>(best);
                for (Map.Entry<Integer, Integer> entry : best.entrySet()) {
                    for (int p : persons) {
                        if ((entry.getKey() & 1 << p) == 0 && canMan(p, post)) {
                            next.merge(entry.getKey() | 1 << p, entry.getValue() + 1, Math::max);
                        }
                    }
                }
                best = next;
            }
            return Collections.max(best.values());
        }

        int latest(List<Integer> crew) {
            int latest = 0;
            for (int p : crew) {
                latest = Math.max(latest, arrival(p));
            }
            return latest;
        }

        List<Integer> fullCrew(List<Integer> free, List<String> posts) {
            List<List<Integer>> all = new ArrayList<>();
            choose(free, posts.size(), 0, new ArrayList<>(), all);
            List<Integer> best = null;
            for (List<Integer> crew : all) {
                if ((best == null || latest(crew) < latest(best)) && firstWay(crew, posts, new ArrayList<>()) != null) {
                    best = crew;
                }
            }
            return best;
        }

        Foreseen foresee(int kindNumber) {
            KindSaid kind = said.kinds.get(kindNumber);
            Foreseen seen = new Foreseen();
            for (int p = 0; p < lost.length; p++) {
                if (whyAbsent(kind, p) == 0) {
                    seen.comers.add(p);
                }
            }
            List<Integer> free = new ArrayList<>(seen.comers);
            for (int e : kind.engines) {
                List<String> posts = said.engines.get(e).posts;
                seen.manned.add(mostManned(free, posts));
                List<Integer> crew = fullCrew(free, posts);
                int why = !service[e] ? 1 : engineOut(e) ? 2 : crew == null ? 3 : 0;
                seen.whys.add(why);
                seen.crews.add(why == 0 ? crew : null);
                if (why == 0) {
                    free.removeAll(crew);
                    seen.leaving++;
                }
            }
            seen.idle = free;
            seen.answered = seen.leaving >= kind.need;
            return seen;
        }

        int payFor(int person, int until) {
            int sum = 0;
            for (int minute = time; minute < until; minute++) {
                sum += isNight(minute) ? 2 : 1;
            }
            pay[person] += sum;
            outUntil[person] = until;
            return sum;
        }

        int call(int kindNumber) {
            KindSaid kind = said.kinds.get(kindNumber);
            Foreseen seen = foresee(kindNumber);
            for (int pager : kind.pagers) {
                List<Integer> chain = chain(pager);
                int holder = chain.get(chain.size() - 1);
                if (chain.size() > 1 && !seen.comers.contains(holder)) {
                    int before = chain.get(chain.size() - 2);
                    trust[before][holder] = Math.max(0, trust[before][holder] - 1);
                }
            }
            int cost = 0;
            List<Leaver> leavers = new ArrayList<>();
            for (int i = 0; i < kind.engines.size(); i++) {
                List<Integer> crew = seen.crews.get(i);
                if (crew != null) {
                    int e = kind.engines.get(i);
                    int leaves = time + latest(crew);
                    returns[e] = leaves + said.engines.get(e).drive + kind.duration + said.engines.get(e).drive;
                    crews.set(e, crew);
                    leavers.add(new Leaver(e, leaves, crew));
                    cost += 50;
                    for (int p : crew) {
                        cost += payFor(p, returns[e]);
                    }
                }
            }
            for (int p : seen.idle) {
                cost += payFor(p, time + arrival(p) + said.persons.get(p).travel);
            }
            calls.add(new Told(cost, seen.answered, seen.comers.size(), leavers));
            return calls.size() - 1;
        }
    }

    static final class Foreseen {
        final List<Integer> comers = new ArrayList<>();
        final List<Integer> manned = new ArrayList<>();
        final List<Integer> whys = new ArrayList<>();
        final List<List<Integer>> crews = new ArrayList<>();
        List<Integer> idle = List.of();
        int leaving = 0;
        boolean answered = false;
    }

    private StringBuilder buffer = new StringBuilder();
    private int errorCode = 0;
    private int errorPosition = -1;
    private World world;
    private Deque<World> undos = new ArrayDeque<>();
    private World[] slots = new World[2];

    public NaiveBrigade() {
        try {
            world = new World(new Parser("night 22 6 5 240;").parse());
        } catch (TextError error) {
            throw new AssertionError(error);
        }
    }

    private static void index(int number, int size) {
        if (number < 0 || number >= size) {
            throw new IndexOutOfBoundsException();
        }
    }

    private void personIndex(int person) {
        index(person, world.lost.length);
    }

    private void twoPersons(int person, int other) {
        personIndex(person);
        personIndex(other);
        argument(person != other);
    }

    private void pagerIndex(int pager) {
        index(pager, world.rotations.size());
    }

    private void kindIndex(int kind) {
        index(kind, world.said.kinds.size());
    }

    private void kindEngineIndex(int kind, int at) {
        kindIndex(kind);
        index(at, world.said.kinds.get(kind).engines.size());
    }

    private static void argument(boolean isRight) {
        if (!isRight) {
            throw new IllegalArgumentException();
        }
    }

    private static void state(boolean isRight) {
        if (!isRight) {
            throw new IllegalStateException();
        }
    }

    private static void exists(boolean isThere) {
        if (!isThere) {
            throw new NoSuchElementException();
        }
    }

    private World change() {
        undos.addLast(world.copy());
        if (undos.size() > 10) {
            undos.removeFirst();
        }
        return world;
    }

    public int append(int a, int b, int c, int d, int e) {
        state(buffer.length() + 20 <= 1200);
        for (int word : new int[] {a, b, c, d, e}) {
            buffer.append((char) (word >>> 24)).append((char) (word >>> 16 & 255));
            buffer.append((char) (word >>> 8 & 255)).append((char) (word & 255));
        }
        return buffer.length();
    }

    public int truncate(int length) {
        index(length, buffer.length() + 1);
        buffer.setLength(length);
        return length;
    }

    public int load() {
        String text = buffer.toString();
        buffer.setLength(0);
        try {
            world = new World(new Parser(text).parse());
        } catch (TextError error) {
            errorCode = error.code;
            errorPosition = error.position;
            throw new IllegalArgumentException();
        }
        errorCode = 0;
        errorPosition = -1;
        undos.clear();
        slots = new World[2];
        return world.lost.length;
    }

    public int errorCode() {
        return errorCode;
    }

    public int errorPosition() {
        return errorPosition;
    }

    public int find(int sort) {
        String name = buffer.toString();
        buffer.setLength(0);
        argument(sort >= 0 && sort <= 3);
        exists(world.said.names(sort).contains(name));
        return world.said.names(sort).indexOf(name);
    }

    public int count(int sort) {
        argument(sort >= 0 && sort <= 4);
        return sort == 4 ? world.calls.size() : world.said.names(sort).size();
    }

    public int time() {
        return world.time;
    }

    public int nightMinutes(int from, int to) {
        argument(from >= 0 && to <= 20160 && from <= to);
        int sum = 0;
        for (int minute = from; minute < to; minute++) {
            sum += world.isNight(minute) ? 1 : 0;
        }
        return sum;
    }

    public int outUntil(int person) {
        personIndex(person);
        return world.out(person) ? world.outUntil[person] : -1;
    }

    public int lostSleep(int person) {
        personIndex(person);
        return world.lost[person];
    }

    public int lostSleepAfter(int person, int minutes) {
        personIndex(person);
        argument(minutes >= 0 && minutes <= 1440);
        World later = world.copy();
        later.ticks(minutes);
        return later.lost[person];
    }

    public int restedAt(int person) {
        personIndex(person);
        World later = world.copy();
        while (later.tired(person) && later.time <= 20160) {
            later.tick();
        }
        exists(later.time <= 20160);
        return later.time;
    }

    public int arrival(int person) {
        personIndex(person);
        return world.arrival(person);
    }

    public int pay(int person) {
        personIndex(person);
        return world.pay[person];
    }

    public int trust(int person, int other) {
        twoPersons(person, other);
        return world.trust[person][other];
    }

    public int trustPath(int person, int other) {
        twoPersons(person, other);
        for (int level = 9; level > 0; level--) {
            Set<Integer> reached = new HashSet<>();
            Deque<Integer> open = new ArrayDeque<>();
            reached.add(person);
            open.add(person);
            while (!open.isEmpty()) {
                int from = open.remove();
                for (int to = 0; to < world.lost.length; to++) {
                    if (to != from && world.trust[from][to] >= level && reached.add(to)) {
                        open.add(to);
                    }
                }
            }
            if (reached.contains(other)) {
                return level;
            }
        }
        return 0;
    }

    public int chain(int pager, int index) {
        pagerIndex(pager);
        List<Integer> chain = world.chain(pager);
        index(index, chain.size());
        return chain.get(index);
    }

    public int handOns(int pager) {
        pagerIndex(pager);
        return world.handOns.get(pager).size();
    }

    public int holdingEnd(int pager) {
        pagerIndex(pager);
        return world.holdingEnd(pager);
    }

    public int rotation(int pager, int place) {
        pagerIndex(pager);
        index(place, world.rotations.get(pager).size());
        return world.rotations.get(pager).get(place);
    }

    public int holderAt(int pager, int time) {
        pagerIndex(pager);
        argument(time >= world.time && time <= 20160);
        World later = world.copy();
        later.ticks(time - world.time);
        return later.holder(pager);
    }

    public int dutyMinutes(int person, int minutes) {
        personIndex(person);
        argument(minutes >= 1 && minutes <= 1440);
        World later = world.copy();
        int sum = 0;
        for (int m = 0; m < minutes; m++) {
            boolean holds = false;
            for (int pager = 0; pager < world.rotations.size(); pager++) {
                holds |= later.holder(pager) == person;
            }
            sum += holds ? 1 : 0;
            later.tick();
        }
        return sum;
    }

    public int whyNotHandOn(int pager, int person, int until) {
        pagerIndex(pager);
        personIndex(person);
        return world.whyNot(pager, person, until);
    }

    public int steps(int pager, int person) {
        pagerIndex(pager);
        personIndex(person);
        List<World> level = List.of(world);
        for (int steps = 0; steps <= 3; steps++) {
            List<World> next = new ArrayList<>();
            for (World one : level) {
                if (one.holder(pager) == person) {
                    return steps;
                }
                int until = one.holdingEnd(pager);
                for (int to = 0; to < world.lost.length; to++) {
                    if (one.whyNot(pager, to, until) == 0) {
                        World after = one.copy();
                        after.handOns.get(pager).add(new HandOn(to, until));
                        next.add(after);
                    }
                }
            }
            level = next;
        }
        throw new NoSuchElementException();
    }

    public int returnsAt(int engine) {
        index(engine, world.returns.length);
        return world.engineOut(engine) ? world.returns[engine] : -1;
    }

    private Told told(int call) {
        index(call, world.calls.size());
        return world.calls.get(call);
    }

    private Leaver leaver(int call, int index) {
        Told told = told(call);
        index(index, told.leavers.size());
        return told.leavers.get(index);
    }

    public int cost(int call) {
        return told(call).cost;
    }

    public boolean isAnswered(int call) {
        return told(call).answered;
    }

    public int came(int call) {
        return told(call).came;
    }

    public int left(int call) {
        return told(call).leavers.size();
    }

    public int engine(int call, int index) {
        return leaver(call, index).engine;
    }

    public int leftAt(int call, int index) {
        return leaver(call, index).time;
    }

    public int member(int call, int index, int member) {
        List<Integer> crew = leaver(call, index).crew;
        index(member, crew.size());
        return crew.get(member);
    }

    public int totalCost() {
        return world.calls.stream().mapToInt(Told::cost).sum();
    }

    public int whyAbsent(int kind, int person) {
        kindIndex(kind);
        personIndex(person);
        return world.whyAbsent(world.said.kinds.get(kind), person);
    }

    public int whyStays(int kind, int index) {
        kindEngineIndex(kind, index);
        return world.foresee(kind).whys.get(index);
    }

    public int departure(int kind, int index) {
        kindEngineIndex(kind, index);
        List<Integer> crew = world.foresee(kind).crews.get(index);
        state(crew != null);
        return world.latest(crew);
    }

    public int mans(int kind, int index, int post) {
        kindEngineIndex(kind, index);
        List<String> posts = world.said.engines.get(world.said.kinds.get(kind).engines.get(index)).posts;
        index(post, posts.size());
        List<Integer> crew = world.foresee(kind).crews.get(index);
        state(crew != null);
        return world.firstWay(crew, posts, new ArrayList<>()).get(post);
    }

    public int manned(int kind, int index) {
        kindEngineIndex(kind, index);
        return world.foresee(kind).manned.get(index);
    }

    public boolean wouldAnswer(int kind) {
        kindIndex(kind);
        return world.foresee(kind).answered;
    }

    public int mostEngines(int kind) {
        kindIndex(kind);
        Foreseen seen = world.foresee(kind);
        List<Integer> engines = new ArrayList<>();
        for (int e : world.said.kinds.get(kind).engines) {
            if (world.service[e] && !world.engineOut(e)) {
                engines.add(e);
            }
        }
        for (int size = engines.size(); size > 0; size--) {
            List<List<Integer>> all = new ArrayList<>();
            World.choose(engines, size, 0, new ArrayList<>(), all);
            for (List<Integer> some : all) {
                List<String> posts = new ArrayList<>();
                some.forEach(e -> posts.addAll(world.said.engines.get(e).posts));
                if (posts.size() <= seen.comers.size() && world.mostManned(seen.comers, posts) == posts.size()) {
                    return size;
                }
            }
        }
        return 0;
    }

    public int hoursUntilAnswered(int kind) {
        kindIndex(kind);
        World later = world.copy();
        for (int hours = 0; hours <= 48; hours++) {
            if (later.foresee(kind).answered) {
                return hours;
            }
            later.ticks(60);
        }
        throw new NoSuchElementException();
    }

    private int[] helpful(int kind) {
        kindIndex(kind);
        state(!world.foresee(kind).answered);
        for (int pager = 0; pager < world.rotations.size(); pager++) {
            for (int person = 0; person < world.lost.length; person++) {
                int until = world.holdingEnd(pager);
                if (world.whyNot(pager, person, until) == 0) {
                    World after = world.copy();
                    after.handOns.get(pager).add(new HandOn(person, until));
                    if (after.foresee(kind).answered) {
                        return new int[] {pager, person};
                    }
                }
            }
        }
        throw new NoSuchElementException();
    }

    public int helpfulPager(int kind) {
        return helpful(kind)[0];
    }

    public int helpfulPerson(int kind) {
        return helpful(kind)[1];
    }

    public int call(int kind) {
        kindIndex(kind);
        state(world.calls.size() < 16);
        return change().call(kind);
    }

    public int handOn(int pager, int person, int until) {
        pagerIndex(pager);
        personIndex(person);
        state(world.whyNot(pager, person, until) == 0);
        change().handOns.get(pager).add(new HandOn(person, until));
        return handOns(pager);
    }

    public int giveBack(int pager) {
        pagerIndex(pager);
        state(!world.handOns.get(pager).isEmpty());
        List<HandOn> all = change().handOns.get(pager);
        all.remove(all.size() - 1);
        return world.holder(pager);
    }

    public int pass(int minutes) {
        argument(minutes >= 1 && minutes <= 1440);
        state(world.time + minutes <= 20160);
        return change().ticks(minutes);
    }

    public int swapPlaces(int pager, int place, int other) {
        pagerIndex(pager);
        List<Integer> rotation = world.rotations.get(pager);
        index(place, rotation.size());
        index(other, rotation.size());
        argument(place != other);
        state(place != world.presentPlace(pager) && other != world.presentPlace(pager));
        Collections.swap(change().rotations.get(pager), place, other);
        return rotation(pager, place);
    }

    public int excuse(int person, boolean isExcused) {
        personIndex(person);
        change().excused[person] = isExcused;
        int sum = 0;
        for (boolean one : world.excused) {
            sum += one ? 1 : 0;
        }
        return sum;
    }

    public int setService(int engine, boolean isInService) {
        index(engine, world.returns.length);
        state(!world.engineOut(engine));
        change().service[engine] = isInService;
        int sum = 0;
        for (boolean one : world.service) {
            sum += one ? 1 : 0;
        }
        return sum;
    }

    public int setTrust(int person, int other, int level) {
        twoPersons(person, other);
        argument(level >= 0 && level <= 9);
        int before = world.trust[person][other];
        change().trust[person][other] = level;
        return before;
    }

    public int undo() {
        state(!undos.isEmpty());
        world = undos.removeLast();
        return undos.size();
    }

    public void save(int slot) {
        index(slot, 2);
        slots[slot] = world.copy();
    }

    public void restore(int slot) {
        index(slot, 2);
        exists(slots[slot] != null);
        world = slots[slot].copy();
        undos.clear();
    }
}
