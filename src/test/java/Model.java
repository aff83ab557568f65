import java.util.ArrayList;
import java.util.HashMap;
import java.util.HashSet;
import java.util.List;
import java.util.Map;
import java.util.Set;

/** The document in the plainest words that the Java library allows, to compare KindDesk with. */
final class Model {
    private record Maker(int type, int name, List<Integer> fields) { }

    private record Demand(char sort, int x, int subject, List<Integer> others) {
        Set<Integer> variables() {
            Set<Integer> all = new HashSet<>(others);
            if (sort != 'C') {
                all.add(x);
            }
            return all;
        }
    }

    private static final class Group {
        final Set<Integer> members = new HashSet<>();
        Integer type = null;
    }

    private static final class Clash extends RuntimeException {
        private static final long serialVersionUID = 1L;
    }

    private int types = 1;
    private List<Integer> row = new ArrayList<>();
    private final List<Maker> makers = new ArrayList<>();
    private final List<List<Integer>> predicates = new ArrayList<>();
    private List<Demand> demands = new ArrayList<>();

    private int toldWho = -1;
    private int toldRounds = -1;
    private Map<Integer, Integer> knownTypes = new HashMap<>();
    private Map<Integer, Integer> knownMeanings = new HashMap<>();

    private Map<Integer, Group> groups;
    private Map<Integer, Integer> meanings;
    private boolean changed;

    int type() {
        return types == 24 ? -1 : types++;
    }

    int put(int n) {
        if (row.size() == 6) {
            return 0;
        }
        row.add(n);
        return 1;
    }

    private List<Integer> takeRow() {
        List<Integer> taken = row;
        row = new ArrayList<>();
        return taken;
    }

    private static boolean allIn(List<Integer> numbers, int end) {
        return numbers.stream().allMatch(n -> n >= 0 && n < end);
    }

    int constructor(int type, int name) {
        List<Integer> fields = takeRow();
        if (makers.size() == 100 || type <= 0 || type >= types || name < 0 || name > 199
            || fields.size() > 4 || !allIn(fields, types) || find(type, name, fields.size()) != -1) {
            return -1;
        }
        makers.add(new Maker(type, name, fields));
        return makers.size() - 1;
    }

    int predicate() {
        List<Integer> arguments = takeRow();
        if (predicates.size() == 60 || !allIn(arguments, types)) {
            return -1;
        }
        predicates.add(arguments);
        return predicates.size() - 1;
    }

    int clause() {
        demands = new ArrayList<>();
        row = new ArrayList<>();
        toldWho = -1;
        toldRounds = -1;
        knownTypes = new HashMap<>();
        knownMeanings = new HashMap<>();
        return 0;
    }

    private int demand(char sort, int x, int subject, List<Integer> others) {
        if (demands.size() == 200 || !allIn(List.of(x), 80) || !allIn(others, 80)) {
            return -1;
        }
        demands.add(new Demand(sort, x, subject, others));
        return demands.size() - 1;
    }

    int number(int x) {
        return demand('N', x, 0, List.of());
    }

    int same(int x, int y) {
        return demand('S', x, 0, List.of(y));
    }

    int call(int predicate) {
        List<Integer> variables = takeRow();
        if (predicate < 0 || predicate >= predicates.size()
            || predicates.get(predicate).size() != variables.size()) {
            return -1;
        }
        return demand('C', 0, predicate, variables);
    }

    int form(int x, int name) {
        List<Integer> variables = takeRow();
        if (variables.size() > 4 || name < 0 || name > 199) {
            return -1;
        }
        return demand('F', x, name, variables);
    }

    int solve() {
        groups = new HashMap<>();
        meanings = new HashMap<>();
        for (int x = 0; x < 80; x++) {
            Group own = new Group();
            own.members.add(x);
            groups.put(x, own);
        }
        toldRounds = 0;
        toldWho = -1;
        do {
            changed = false;
            toldRounds++;
            for (int d = 0; d < demands.size(); d++) {
                try {
                    meet(d, demands.get(d));
                } catch (Clash clash) {
                    toldWho = d;
                    return 1;
                }
            }
        } while (changed);
        return withoutClash();
    }

    private int withoutClash() {
        for (int d = 0; d < demands.size(); d++) {
            if (demands.get(d).sort == 'F' && !meanings.containsKey(d)) {
                toldWho = d;
                return 2;
            }
        }
        Map<Integer, Integer> found = new HashMap<>();
        for (int x = 0; x < 80; x++) {
            int wanted = x;
            if (demands.stream().anyMatch(demand -> demand.variables().contains(wanted))) {
                if (groups.get(x).type == null) {
                    toldWho = x;
                    return 3;
                }
                found.put(x, groups.get(x).type);
            }
        }
        knownTypes = found;
        knownMeanings = meanings;
        return 0;
    }

    private void meet(int d, Demand demand) {
        switch (demand.sort) {
            case 'N' -> gets(demand.x, 0);
            case 'S' -> join(groups.get(demand.x), groups.get(demand.others.get(0)));
            case 'C' -> getAll(demand.others, predicates.get(demand.subject));
            default -> {
                if (!meanings.containsKey(d)) {
                    meetForm(d, demand);
                }
            }
        }
    }

    private void meetForm(int d, Demand demand) {
        List<Integer> fitting = new ArrayList<>();
        for (int c = 0; c < makers.size(); c++) {
            if (fits(makers.get(c), demand)) {
                fitting.add(c);
            }
        }
        if (fitting.isEmpty()) {
            throw new Clash();
        }
        if (fitting.size() == 1) {
            Maker maker = makers.get(fitting.get(0));
            meanings.put(d, fitting.get(0));
            changed = true;
            gets(demand.x, maker.type);
            getAll(demand.others, maker.fields);
        }
    }

    private boolean fits(Maker maker, Demand demand) {
        boolean fits = maker.name == demand.subject && maker.fields.size() == demand.others.size()
            && open(demand.x, maker.type);
        for (int k = 0; fits && k < maker.fields.size(); k++) {
            fits = open(demand.others.get(k), maker.fields.get(k));
        }
        return fits;
    }

    private boolean open(int x, int type) {
        Integer has = groups.get(x).type;
        return has == null || has == type;
    }

    private void getAll(List<Integer> variables, List<Integer> given) {
        for (int k = 0; k < given.size(); k++) {
            gets(variables.get(k), given.get(k));
        }
    }

    private void gets(int x, int type) {
        if (!open(x, type)) {
            throw new Clash();
        }
        if (groups.get(x).type == null) {
            groups.get(x).type = type;
            changed = true;
        }
    }

    private void join(Group one, Group two) {
        if (one == two) {
            return;
        }
        if (one.type != null && two.type != null && !one.type.equals(two.type)) {
            throw new Clash();
        }
        Group both = new Group();
        both.type = one.type != null ? one.type : two.type;
        both.members.addAll(one.members);
        both.members.addAll(two.members);
        both.members.forEach(x -> groups.put(x, both));
        changed = true;
    }

    int told(int what) {
        return what == 0 ? toldWho : what == 1 ? toldRounds : -1;
    }

    int typeOf(int x) {
        return knownTypes.getOrDefault(x, -1);
    }

    int meant(int demand) {
        return knownMeanings.getOrDefault(demand, -1);
    }

    int about(int constructor, int what) {
        if (constructor < 0 || constructor >= makers.size() || what < 0) {
            return -1;
        }
        Maker maker = makers.get(constructor);
        List<Integer> all = new ArrayList<>(List.of(maker.type, maker.name, maker.fields.size()));
        all.addAll(maker.fields);
        return what < all.size() ? all.get(what) : -1;
    }

    private List<Integer> makersOf(int type) {
        List<Integer> found = new ArrayList<>();
        for (int c = 0; c < makers.size(); c++) {
            if (makers.get(c).type == type) {
                found.add(c);
            }
        }
        return found;
    }

    int many(int type) {
        return type < 0 || type >= types ? -1 : makersOf(type).size();
    }

    int constructorOf(int type, int k) {
        List<Integer> found = makersOf(type);
        return k < 0 || k >= found.size() ? -1 : found.get(k);
    }

    int find(int type, int name, int fields) {
        for (int c : makersOf(type)) {
            if (makers.get(c).name == name && makers.get(c).fields.size() == fields) {
                return c;
            }
        }
        return -1;
    }
}
