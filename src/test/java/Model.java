import java.math.BigInteger;
import java.util.ArrayList;
import java.util.Arrays;
import java.util.List;

/** The document written a second time, plainly: it copies whole states, searches all ways and keeps no tables. */
final class Model {
  static final long ERROR = Long.MIN_VALUE;
  private static final List<String> LANGUAGE = Arrays.asList("person", "debt", "twist", "cross", "plank", "seed", "law", "east",
      "west", "bear", "fray", "rent", "painted", "owed", "frayed", "age", "due", "year", "rich", "two", "and", "or", "not");
  private static final List<String> NAMES = Arrays.asList("owed", "frayed", "age", "due", "year", "rich", "two");

  // ---- a text

  static final class Fault extends RuntimeException {
    private static final long serialVersionUID = 1;
    final int number;
    final int place;

    Fault(int number, int place) {
      this.number = number;
      this.place = place;
    }
  }

  static final class Person {
    String name;
    int side;
    int purse;
    int weight;
    int stands;
  }

  static final class Strand {
    int from;
    int to;
    int owed;
    int frayed;
    int due;
    int status;
    int twin = -1;
    int tied;
    boolean painted;
  }

  static final class Crossing {
    int person;
    int load;
    int year;
    int outcome;
  }

  /** An E as a tree. */
  static final class Tree {
    final String sign;
    final Tree left;
    final Tree right;

    Tree(String sign, Tree left, Tree right) {
      this.sign = sign;
      this.left = left;
      this.right = right;
    }
  }

  static final class State {
    List<Person> persons = new ArrayList<>();
    List<Strand> strands = new ArrayList<>();
    List<Crossing> crossings = new ArrayList<>();
    Tree[] laws = new Tree[3];
    int knots;
    int plank;
    int year;
    int lines;

    State copy() {
      State s = new State();
      for (Person p : persons) {
        Person q = new Person();
        q.name = p.name;
        q.side = p.side;
        q.purse = p.purse;
        q.weight = p.weight;
        q.stands = p.stands;
        s.persons.add(q);
      }
      for (Strand a : strands) {
        Strand b = new Strand();
        b.from = a.from;
        b.to = a.to;
        b.owed = a.owed;
        b.frayed = a.frayed;
        b.due = a.due;
        b.status = a.status;
        b.twin = a.twin;
        b.tied = a.tied;
        b.painted = a.painted;
        s.strands.add(b);
      }
      for (Crossing c : crossings) {
        Crossing d = new Crossing();
        d.person = c.person;
        d.load = c.load;
        d.year = c.year;
        d.outcome = c.outcome;
        s.crossings.add(d);
      }
      s.laws = laws;
      s.knots = knots;
      s.plank = plank;
      s.year = year;
      s.lines = lines;
      return s;
    }

    boolean there(int i) {
      return i >= 0 && i < strands.size() && strands.get(i).status == 0;
    }

    int two(int i) {
      return there(strands.get(i).twin) ? 1 : 0;
    }

    long law(int what, int i, int two) {
      Strand s = strands.get(i);
      return value(laws[what], s.owed, s.frayed, year - s.tied, s.due, year, persons.get(s.from).purse, two);
    }

    int alone(int i, int two) {
      Strand s = strands.get(i);
      if (s.painted || s.status != 0) {
        return 0;
      }
      long e = law(0, i, two);
      return (int) (e == ERROR ? s.owed - s.owed * s.frayed / 100 : Math.max(0, Math.min(9999, e)));
    }

    int bears() {
      int sum = plank;
      for (int i = 0; i < strands.size(); i++) {
        if (there(i) && two(i) == 0) {
          sum += alone(i, 0);
        }
        for (int j = i + 1; j < strands.size(); j++) {
          if (there(i) && there(j) && strands.get(i).twin == j) {
            sum += 3 * (alone(i, 1) + alone(j, 1)) / 2;
          }
        }
      }
      return sum;
    }

    int sag(int load) {
      int b = bears();
      return b == 0 ? 9999 : Math.min(9999, load * 100 / b);
    }

    boolean pay(int i) {
      if (!there(i) || persons.get(strands.get(i).from).purse < strands.get(i).owed) {
        return false;
      }
      persons.get(strands.get(i).from).purse -= strands.get(i).owed;
      persons.get(strands.get(i).to).purse += strands.get(i).owed;
      strands.get(i).status = 1;
      return true;
    }

    void fray(int i, long more) {
      if (there(i)) {
        strands.get(i).frayed += more;
        if (strands.get(i).frayed >= 100) {
          strands.get(i).status = 3;
        }
      }
    }

    /** without: 0 nothing frays, 1 nobody pays, 4 no rent. */
    void year(int without) {
      for (Crossing c : crossings) {
        if (c.year == year) {
          Person p = persons.get(c.person);
          c.outcome = p.weight + c.load <= bears() ? 1 : 2;
          p.stands = c.outcome == 1 ? 1 - p.stands : p.stands;
        }
      }
      for (int i = 0; i < strands.size() && without != 0; i++) {
        if (there(i)) {
          long e = law(1, i, two(i));
          fray(i, e == ERROR ? 2 : Math.max(0, Math.min(99, e)));
        }
      }
      for (int i = 0; i < strands.size() && without != 4; i++) {
        if (there(i)) {
          long e = law(2, i, two(i));
          strands.get(i).owed += e == ERROR ? 0 : Math.max(0, Math.min(99, e));
          strands.get(i).owed = Math.min(9999, strands.get(i).owed);
        }
      }
      for (int i = 0; i < strands.size() && without != 1; i++) {
        if (strands.get(i).due <= year) {
          pay(i);
        }
      }
      year++;
    }

    int owed(int from, int to) {
      int sum = 0;
      for (Strand s : strands) {
        sum += s.status == 0 && (from < 0 || s.from == from) && (to < 0 || s.to == to) ? s.owed : 0;
      }
      return sum;
    }

    int statuses(int status) {
      int n = 0;
      for (Strand s : strands) {
        n += s.status == status ? 1 : 0;
      }
      return n;
    }
  }

  static long value(Tree tree, long... names) {
    BigInteger v = tree == null ? null : big(tree, names);
    return v == null ? ERROR : v.longValueExact();
  }

  private static BigInteger big(Tree tree, long[] names) {
    BigInteger v = raw(tree, names);
    return v == null || v.abs().compareTo(BigInteger.TEN.pow(12)) > 0 ? null : v;
  }

  private static BigInteger raw(Tree tree, long[] names) {
    if (NAMES.contains(tree.sign)) {
      return BigInteger.valueOf(names[NAMES.indexOf(tree.sign)]);
    }
    if (tree.left == null) {
      return new BigInteger(tree.sign);
    }
    BigInteger l = big(tree.left, names);
    if (l == null) {
      return null;
    }
    if (tree.sign.equals("not")) {
      return so(l.signum() == 0);
    }
    BigInteger r = big(tree.right, names);
    if (r == null) {
      return null;
    }
    int c = l.compareTo(r);
    switch (tree.sign) {
      case "and": return so(l.signum() != 0 && r.signum() != 0);
      case "or": return so(l.signum() != 0 || r.signum() != 0);
      case "<": return so(c < 0);
      case "<=": return so(c <= 0);
      case "=": return so(c == 0);
      case "<>": return so(c != 0);
      case ">=": return so(c >= 0);
      case ">": return so(c > 0);
      case "+": return l.add(r);
      case "-": return l.subtract(r);
      case "*": return l.multiply(r);
      default: return r.signum() == 0 ? null : l.divide(r);
    }
  }

  private static BigInteger so(boolean is) {
    return is ? BigInteger.ONE : BigInteger.ZERO;
  }

  /** Reads a text by the grammar, one method a rule. */
  static final class Reader {
    final String text;
    final State s = new State();
    int at;
    String token;
    int place;
    boolean plank;
    boolean seed;
    int open;

    Reader(String text) {
      this.text = text;
    }

    State read() {
      next();
      while (!token.isEmpty()) {
        line();
        eat(";");
        s.lines++;
      }
      return s;
    }

    void next() {
      while (at < text.length() && (text.charAt(at) == 10 || text.charAt(at) == 32)) {
        at++;
      }
      place = at;
      for (String form : new String[] {"[a-z]+", "[0-9]+", "<=|<>|>=|.|[\\s\\S]"}) {
        java.util.regex.Matcher m = java.util.regex.Pattern.compile(form).matcher(text).region(at, text.length());
        if (m.lookingAt()) {
          token = m.group();
          at = m.end();
          return;
        }
      }
      token = "";
    }

    void fail(int number) {
      throw new Fault(number, place);
    }

    void eat(String wanted) {
      if (!token.equals(wanted)) {
        fail(1);
      }
      next();
    }

    String name() {
      if (!token.matches("[a-z]{1,6}") || LANGUAGE.contains(token)) {
        fail(1);
      }
      return token;
    }

    int number(int least, int most) {
      if (!token.matches("[0-9]+")) {
        fail(1);
      }
      BigInteger n = new BigInteger(token);
      if (n.compareTo(BigInteger.valueOf(least)) < 0 || n.compareTo(BigInteger.valueOf(most)) > 0) {
        fail(2);
      }
      next();
      return n.intValueExact();
    }

    int find(String name) {
      for (int i = 0; i < s.persons.size(); i++) {
        if (s.persons.get(i).name.equals(name)) {
          return i;
        }
      }
      return -1;
    }

    int person() {
      int found = find(name());
      if (found < 0) {
        fail(4);
      }
      return found;
    }

    void most(int told, int room) {
      if (told == room) {
        fail(2);
      }
      next();
    }

    void once(boolean told) {
      if (told) {
        fail(3);
      }
      next();
    }

    void line() {
      switch (token) {
        case "person": most(s.persons.size(), 6); personLine(); break;
        case "debt": most(s.strands.size(), 10); debtLine(); break;
        case "twist": next(); twistLine(); break;
        case "cross":
          most(s.crossings.size(), 8);
          Crossing c = new Crossing();
          c.person = person();
          next();
          c.load = number(0, 99);
          c.year = number(0, 99);
          s.crossings.add(c);
          break;
        case "plank": once(plank); plank = true; s.plank = number(0, 999); break;
        case "seed": once(seed); seed = true; number(0, 99999); break;
        case "law":
          next();
          int law = Arrays.asList("bear", "fray", "rent").indexOf(token);
          if (law < 0) {
            fail(1);
          }
          once(s.laws[law] != null);
          s.laws[law] = or();
          break;
        default: fail(1);
      }
    }

    void personLine() {
      Person p = new Person();
      p.name = name();
      once(find(token) >= 0);
      if (!token.equals("east") && !token.equals("west")) {
        fail(1);
      }
      p.side = token.equals("east") ? 0 : 1;
      p.stands = p.side;
      next();
      p.purse = number(0, 999);
      p.weight = number(1, 99);
      s.persons.add(p);
    }

    void debtLine() {
      Strand d = new Strand();
      d.from = person();
      next();
      d.to = person();
      if (s.persons.get(d.from).side == s.persons.get(d.to).side) {
        fail(5);
      }
      next();
      d.owed = number(1, 999);
      d.frayed = number(0, 99);
      d.due = number(0, 99);
      if (token.equals("painted")) {
        d.painted = true;
        next();
      }
      s.strands.add(d);
    }

    void twistLine() {
      int one = free(-1);
      int other = free(one);
      s.strands.get(one).twin = other;
      s.strands.get(other).twin = one;
    }

    int free(int taken) {
      if (!token.matches("[0-9]+")) {
        fail(1);
      }
      BigInteger n = new BigInteger(token);
      if (n.compareTo(BigInteger.valueOf(s.strands.size())) >= 0) {
        fail(4);
      }
      int i = n.intValueExact();
      if (i == taken || s.strands.get(i).twin >= 0) {
        fail(5);
      }
      next();
      return i;
    }

    String knot() {
      String sign = token;
      if (++s.knots > 64) {
        fail(2);
      }
      next();
      return sign;
    }

    Tree or() {
      Tree t = and();
      while (token.equals("or")) {
        t = new Tree(knot(), t, and());
      }
      return t;
    }

    Tree and() {
      Tree t = not();
      while (token.equals("and")) {
        t = new Tree(knot(), t, not());
      }
      return t;
    }

    Tree not() {
      return token.equals("not") ? new Tree(knot(), not(), null) : comparison();
    }

    Tree comparison() {
      Tree t = sum();
      return token.matches("<|<=|=|<>|>=|>") ? new Tree(knot(), t, sum()) : t;
    }

    Tree sum() {
      Tree t = product();
      while (token.equals("+") || token.equals("-")) {
        t = new Tree(knot(), t, product());
      }
      return t;
    }

    Tree product() {
      Tree t = part();
      while (token.equals("*") || token.equals("/")) {
        t = new Tree(knot(), t, part());
      }
      return t;
    }

    Tree part() {
      if (token.equals("(")) {
        if (open == 8) {
          fail(2);
        }
        open++;
        next();
        Tree t = or();
        open--;
        eat(")");
        return t;
      }
      if (NAMES.contains(token)) {
        return new Tree(knot(), null, null);
      }
      if (!token.matches("[0-9]+")) {
        fail(1);
      }
      if (new BigInteger(token).compareTo(BigInteger.valueOf(9999)) > 0) {
        fail(2);
      }
      return new Tree(knot(), null, null);
    }
  }

  // ---- the ledger

  private StringBuilder tape = new StringBuilder();
  private int fault;
  private int place = -1;
  private State first = new State();
  private State now = new State();
  private State image;
  private final List<State> undo = new ArrayList<>();
  private final List<int[]> sags = new ArrayList<>();
  private int known = -1;

  int feed(int a, int b, int c, int d, int e) {
    if (tape.length() + 20 > 700) {
      return -1;
    }
    for (int number : new int[] {a, b, c, d, e}) {
      tape.append((char) (number >>> 24)).append((char) (number >>> 16 & 255));
      tape.append((char) (number >>> 8 & 255)).append((char) (number & 255));
    }
    return tape.length();
  }

  int text(int n) {
    if (n < 0 || n > tape.length()) {
      return -2;
    }
    String told = tape.substring(0, n);
    tape = new StringBuilder();
    try {
      first = new Reader(told).read();
    } catch (Fault f) {
      fault = f.number;
      place = f.place;
      return -1;
    }
    fault = 0;
    place = -1;
    now = first.copy();
    image = null;
    undo.clear();
    sags.clear();
    known = -1;
    return now.lines;
  }

  int fault(int what) {
    return what == 0 ? fault : what == 1 ? place : -1;
  }

  int named(int letters) {
    for (int i = 0; i < now.persons.size(); i++) {
      if (Kit.letters(now.persons.get(i).name) == letters) {
        return i;
      }
    }
    return -1;
  }

  private boolean isPerson(int i) {
    return i >= 0 && i < now.persons.size();
  }

  private boolean isStrand(int i) {
    return i >= 0 && i < now.strands.size();
  }

  private static boolean out(int n, int least, int most) {
    return n < least || n > most;
  }

  long person(int i, int what) {
    if (!isPerson(i)) {
      return Kit.NO_PERSON;
    }
    Person p = now.persons.get(i);
    switch (what) {
      case 0: return p.purse;
      case 1: return p.weight;
      case 2: return p.side;
      case 3: return p.stands;
      case 4: return now.owed(i, -1);
      case 5: return now.owed(-1, i);
      default: return Kit.NO_WHAT;
    }
  }

  int strand(int i, int what) {
    if (!isStrand(i) || out(what, 0, 8)) {
      return -1;
    }
    Strand s = now.strands.get(i);
    return new int[] {s.from, s.to, s.owed, s.frayed, s.due, s.status, now.alone(i, now.two(i)), s.twin, s.tied}[what];
  }

  int crossing(int i, int what) {
    if (out(i, 0, now.crossings.size() - 1) || out(what, 0, 3)) {
      return -1;
    }
    Crossing c = now.crossings.get(i);
    return new int[] {c.person, c.load, c.year, c.outcome}[what];
  }

  long law(int what, int i) {
    return out(what, 0, 2) || !now.there(i) ? ERROR : now.law(what, i, now.two(i));
  }

  int bears() {
    return now.bears();
  }

  int sag(int load) {
    return out(load, 1, 999) ? -1 : now.sag(load);
  }

  private void act() {
    undo.add(now.copy());
    if (undo.size() > 20) {
      undo.remove(0);
    }
  }

  int tie(int from, int to, int owed, int due) {
    if (!isPerson(from) || !isPerson(to) || out(owed, 1, 999) || out(due, 0, 99) || now.strands.size() == 12
        || now.persons.get(from).side == now.persons.get(to).side) {
      return -1;
    }
    act();
    Strand s = new Strand();
    s.from = from;
    s.to = to;
    s.owed = owed;
    s.due = due;
    s.tied = now.year;
    now.strands.add(s);
    return now.strands.size() - 1;
  }

  boolean forgive(int i) {
    if (!now.there(i)) {
      return false;
    }
    act();
    now.strands.get(i).status = 2;
    return true;
  }

  boolean pay(int i) {
    if (!now.copy().pay(i)) {
      return false;
    }
    act();
    return now.pay(i);
  }

  boolean twist(int one, int other) {
    if (!now.there(one) || !now.there(other) || now.strands.get(one).twin == (one == other ? -1 : other)) {
      return false;
    }
    act();
    for (Strand s : now.strands) {
      s.twin = s.twin == one || s.twin == other ? -1 : s.twin;
    }
    now.strands.get(one).twin = one == other ? -1 : other;
    now.strands.get(other).twin = one == other ? -1 : one;
    return true;
  }

  int cross(int i, int load) {
    if (!isPerson(i) || out(load, 0, 99)) {
      return -1;
    }
    if (now.persons.get(i).weight + load > now.bears()) {
      return 0;
    }
    act();
    now.persons.get(i).stands ^= 1;
    return 1;
  }

  int years(int n) {
    if (out(n, 0, 99) || now.year + n > 999) {
      return -1;
    }
    for (int i = 0; i < n; i++) {
      now.year(-1);
      undo.clear();
    }
    return now.year;
  }

  int order(int strands, int load, int k) {
    if (out(strands, 0, (1 << now.strands.size()) - 1) || out(load, 0, 9999) || k < 0) {
      return -1;
    }
    List<Integer> wanted = new ArrayList<>();
    for (int i = 0; i < now.strands.size(); i++) {
      if ((strands >> i & 1) == 1) {
        wanted.add(i);
        if (!now.there(i)) {
          return -1;
        }
      }
    }
    List<Integer> found = orderFrom(now, wanted, load);
    return found == null || k >= found.size() ? -2 : found.get(k);
  }

  private static List<Integer> orderFrom(State s, List<Integer> wanted, int load) {
    if (wanted.isEmpty()) {
      return new ArrayList<>();
    }
    for (int i : wanted) {
      State t = s.copy();
      if (t.pay(i) && t.bears() >= load) {
        List<Integer> rest = new ArrayList<>(wanted);
        rest.remove((Integer) i);
        List<Integer> found = orderFrom(t, rest, load);
        if (found != null) {
          found.add(0, i);
          return found;
        }
      }
    }
    return null;
  }

  private static int bearsWithout(State s, int bits) {
    State t = s.copy();
    for (int i = 0; i < t.strands.size(); i++) {
      if ((bits >> i & 1) == 1 && t.there(i)) {
        t.strands.get(i).status = 2;
      }
    }
    return t.bears();
  }

  int drop(int load) {
    if (out(load, 1, 9999)) {
      return -1;
    }
    for (int size = 0; size <= now.strands.size(); size++) {
      for (int bits = 0; bits < 1 << now.strands.size(); bits++) {
        if (Integer.bitCount(bits) == size && bearsWithout(now, bits) < load) {
          return bits;
        }
      }
    }
    return -2;
  }

  int loan(int load) {
    if (out(load, 1, 9999)) {
      return -1;
    }
    for (int owed = 0; owed <= 999; owed++) {
      State t = now.copy();
      if (owed > 0) {
        t.persons.add(new Person());
        Strand s = new Strand();
        s.from = t.persons.size() - 1;
        s.owed = owed;
        s.due = 99;
        s.tied = t.year;
        t.strands.add(s);
      }
      if (t.bears() >= load) {
        return owed;
      }
    }
    return -2;
  }

  int strike(int one, int other) {
    return !isPerson(one) || !isPerson(other) || one == other ? -1 : Math.min(now.owed(one, other), now.owed(other, one));
  }

  private int bestBorne;
  private int[] bestPartners;

  /** All ways to pair, partner by partner in order: a later one must bear more to be taken. */
  private void pair(int[] alone, int[] partners, int at, int left, int gain) {
    if (at == alone.length) {
      if (gain > bestBorne) {
        bestBorne = gain;
        bestPartners = partners.clone();
      }
      return;
    }
    if (partners[at] != -2 || alone[at] < 0) {
      pair(alone, partners, at + 1, left, gain);
      return;
    }
    pair(alone, partners, at + 1, left, gain + alone[at]);
    for (int other = at + 1; other < alone.length && left > 0; other++) {
      if (partners[other] == -2 && alone[other] >= 0) {
        partners[at] = other;
        partners[other] = at;
        pair(alone, partners, at + 1, left - 1, gain + (alone[at] + alone[other]) * 3 / 2);
        partners[at] = -2;
        partners[other] = -2;
      }
    }
  }

  private void bestTwists(int k) {
    int[] alone = new int[now.strands.size()];
    int[] partners = new int[alone.length];
    for (int i = 0; i < alone.length; i++) {
      alone[i] = now.there(i) ? now.alone(i, 0) : -1;
      partners[i] = -2;
    }
    bestBorne = -1;
    pair(alone, partners, 0, k, now.plank);
  }

  int twists(int k) {
    if (out(k, 0, 5)) {
      return -1;
    }
    bestTwists(k);
    return bestBorne;
  }

  int partner(int k, int i) {
    if (out(k, 0, 5) || !now.there(i)) {
      return -1;
    }
    bestTwists(k);
    return bestPartners[i];
  }

  int life(int i) {
    if (!isStrand(i)) {
      return -1;
    }
    State t = now.copy();
    int n = 0;
    while (n < 99 && t.there(i)) {
      t.year(-1);
      n++;
    }
    return n;
  }

  int ahead(int n) {
    if (out(n, 0, 99)) {
      return -1;
    }
    State t = now.copy();
    for (int year = 0; year < n; year++) {
      t.year(-1);
      for (int i = 0; i < t.crossings.size(); i++) {
        if (t.crossings.get(i).outcome == 2 && now.crossings.get(i).outcome == 0) {
          return i;
        }
      }
    }
    return -2;
  }

  int see(int years, int load, int sag, boolean atLeast) {
    if (out(years, 0, 50) || out(load, 1, 999) || out(sag, 0, 9999) || sags.size() == 24) {
      return -1;
    }
    sags.add(new int[] {years, load, sag, atLeast ? 1 : 0});
    return sags.size() - 1;
  }

  int strikes(int seen) {
    if (out(seen, 0, sags.size() - 1) || sags.size() == 24) {
      return -1;
    }
    sags.add(new int[] {seen});
    return sags.size() - 1;
  }

  boolean known(int n) {
    if (out(n, -1, sags.size())) {
      return false;
    }
    known = n;
    return true;
  }

  private int knownSize() {
    return known < 0 ? sags.size() : known;
  }

  private boolean struck(int i) {
    for (int j = i + 1; j < knownSize(); j++) {
      if (sags.get(j).length == 1 && sags.get(j)[0] == i && !struck(j)) {
        return true;
      }
    }
    return false;
  }

  private static void paint(State s, int alone, int told) {
    for (int i = 0; i < s.strands.size(); i++) {
      s.strands.get(i).painted = i == alone && i < told;
    }
  }

  int painted() {
    int bits = 0;
    int told = first.strands.size();
    for (int candidate = 0; candidate <= told; candidate++) {
      boolean so = true;
      for (int i = 0; i < knownSize(); i++) {
        int[] seen = sags.get(i);
        if (seen.length == 4 && !struck(i)) {
          State t = first.copy();
          paint(t, candidate, told);
          for (int year = 0; year < seen[0]; year++) {
            t.year(-1);
          }
          so &= t.sag(seen[1]) >= seen[2] == (seen[3] == 1);
        }
      }
      bits |= so ? 1 << candidate : 0;
    }
    return bits;
  }

  int tells(int what) {
    if (out(what, 0, 1)) {
      return -1;
    }
    int bits = painted();
    if (bits == 0) {
      return -2;
    }
    int best = 0;
    int most = 0;
    for (int load = 1; load <= 200; load++) {
      java.util.Set<Integer> ways = new java.util.HashSet<>();
      for (int candidate = 0; candidate <= first.strands.size(); candidate++) {
        if ((bits >> candidate & 1) == 1) {
          State t = now.copy();
          paint(t, candidate, first.strands.size());
          ways.add(t.sag(load));
        }
      }
      if (ways.size() > most) {
        most = ways.size();
        best = load;
      }
    }
    return what == 0 ? best : most;
  }

  private int has(int side, int east, int west, int worth) {
    int cut = 0;
    int own = 0;
    for (int i = 0; i < now.strands.size(); i++) {
      int of = now.persons.get(now.strands.get(i).from).side;
      cut |= (of == 0 ? east : west) == 1 ? 1 << i : 0;
      own += now.there(i) && of == side ? now.strands.get(i).owed : 0;
    }
    return ((side == 0 ? east : west) == 1 ? own : 0) + (bearsWithout(now, cut) > 0 ? worth : 0);
  }

  private List<Integer> allRests(int worth) {
    List<Integer> found = new ArrayList<>();
    for (int east = 0; east < 2; east++) {
      for (int west = 0; west < 2; west++) {
        if (has(0, 1 - east, west, worth) <= has(0, east, west, worth)
            && has(1, east, 1 - west, worth) <= has(1, east, west, worth)) {
          found.add(10 * east + west);
        }
      }
    }
    return found;
  }

  int rests(int worth) {
    return out(worth, 0, 9999) ? -1 : allRests(worth).size();
  }

  int rest(int worth, int k) {
    if (out(worth, 0, 9999) || k < 0) {
      return -1;
    }
    List<Integer> found = allRests(worth);
    return k < found.size() ? found.get(k) : -2;
  }

  private BigInteger drawn;

  private int draw() {
    drawn = drawn.multiply(BigInteger.valueOf(1103515245)).add(BigInteger.valueOf(12345)).mod(BigInteger.ONE.shiftLeft(31));
    return drawn.intValueExact() / 65536;
  }

  int chance(int seed, int n, int bound) {
    if (seed < 0 || out(n, 1, 30) || out(bound, 0, 9999)) {
      return -1;
    }
    drawn = BigInteger.valueOf(seed);
    int times = 0;
    for (int i = 0; i < 10; i++) {
      State t = now.copy();
      for (int year = 0; year < n; year++) {
        int number = draw() % 10;
        if (number == 0) {
          t.plank += 5;
        } else if (number == 1 && !t.strands.isEmpty()) {
          t.fray(draw() % t.strands.size(), 30);
        }
        t.year(-1);
      }
      times += t.bears() >= bound ? 1 : 0;
    }
    return times;
  }

  int tried(int what, int i, int n) {
    if (out(what, 0, 4) || out(n, 0, 50) || (what == 2 ? !isStrand(i) : i != 0)) {
      return -1;
    }
    State t = now.copy();
    if (what == 2 && t.there(i)) {
      t.strands.get(i).status = 2;
    }
    if (what == 3) {
      paint(t, -1, 0);
    }
    for (int year = 0; year < n; year++) {
      t.year(what);
    }
    return t.bears();
  }

  int undo() {
    if (undo.isEmpty()) {
      return -1;
    }
    now = undo.remove(undo.size() - 1);
    return undo.size();
  }

  int keep() {
    image = now.copy();
    return now.year;
  }

  int back() {
    if (image == null) {
      return -1;
    }
    now = image.copy();
    undo.clear();
    return now.year;
  }

  int count(int what) {
    int made = 0;
    int refused = 0;
    for (Crossing c : now.crossings) {
      made += c.outcome == 1 ? 1 : 0;
      refused += c.outcome == 2 ? 1 : 0;
    }
    int[] all = {now.persons.size(), now.strands.size(), now.statuses(0), now.statuses(1), now.statuses(2), now.statuses(3),
      now.crossings.size(), made, refused, now.knots, now.year, now.owed(-1, -1), now.plank, sags.size(), knownSize(),
      undo.size()};
    return out(what, 0, 15) ? -1 : all[what];
  }
}
