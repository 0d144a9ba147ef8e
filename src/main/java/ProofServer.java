import java.util.ArrayList;
import java.util.Arrays;
import java.util.List;

/**
 * A proof document server: a client's framed messages are read, its documents are kept, parted into
 * sentences and checked by two workers step by step; and a batch checker checks a text at once.
 *
 * <p>A formula is a row of nodes in which each node stands ahead of its parts, so that everything
 * about formulas is a loop over a row. A bound name is told by its level, the number of quantifiers
 * around the one that binds it: two formulas are the same up to bound names when their rows are.
 */
public final class ProofServer {
    private static final int TAPE_MOST = 4000;
    private static final int FED_AT_ONCE = 20;
    private static final int HEADERS_MOST = 200;
    private static final int BODY_MOST = 3000;
    private static final int OUTPUT_MOST = 20000;
    private static final int JSON_DEEPEST = 10;
    private static final int TEXT_MOST = 1500;
    private static final int URI_MOST = 40;
    private static final int ID_MOST = 20;
    private static final int CHANGES_MOST = 8;
    private static final int OPEN_MOST = 3;
    private static final int WAITING_MOST = 12;
    private static final int SENTENCES_MOST = 40;
    private static final int NAME_MOST = 10;
    private static final int ARITY_MOST = 3;
    private static final int NESTING_MOST = 12;
    private static final int SYMBOLS_MOST = 16;
    private static final int FACTS_MOST = 16;
    private static final int GOALS_MOST = 6;
    private static final int VARIABLES_MOST = 6;
    private static final int HYPOTHESES_MOST = 8;
    private static final int NODES_MOST = 80;
    private static final int CACHE_MOST = 24;
    private static final int STEPS_MOST = 10000;
    private static final int WORKERS = 2;

    private static final int UNFINISHED = 1;
    private static final int TOO_MUCH = 2;
    private static final int SYNTAX = 3;
    private static final int NOT_HERE = 4;
    private static final int UNKNOWN = 5;
    private static final int TAKEN = 6;
    private static final int OPEN_GOALS = 7;
    private static final int NO_MATCH = 8;
    private static final int TOO_LARGE = 9;

    private static final int NOT_JSON = -32700;
    private static final int NO_REQUEST = -32600;
    private static final int NO_METHOD = -32601;
    private static final int BAD_PARAMS = -32602;
    private static final int NOT_INITIALIZED = -32002;
    private static final int CANCELLED = -32800;
    private static final int MODIFIED = -32801;

    private static final int NEW = 0;
    private static final int READY = 1;
    private static final int SHUT = 2;

    // A node is its kind, the number of its terms and its name (of a bound name: its level) in one int.
    private static final int KIND = 15;
    private static final int FALSE = 0;
    private static final int IMPLIES = 1;
    private static final int AND = 2;
    private static final int OR = 3;
    private static final int EQUALS = 4;
    private static final int FORALL = 5;
    private static final int EXISTS = 6;
    private static final int PREDICATE = 7;
    private static final int FUNCTION = 8;
    private static final int VARIABLE = 9;
    private static final int BOUND = 10;
    private static final int TERMS_SHIFT = 4;
    private static final int TERMS_MASK = 2047;
    private static final int NAME_SHIFT = 15;

    // The words in the order of their numbers below: those up to lemma stand outside of proofs.
    private static final String WORDS =
            "forall exists False function predicate axiom lemma qed abort intro exact apply split left right cases absurd give use same rewrite have";
    private static final int WORD_FORALL = 0;
    private static final int WORD_EXISTS = 1;
    private static final int WORD_FALSE = 2;
    private static final int WORD_FUNCTION = 3;
    private static final int WORD_PREDICATE = 4;
    private static final int WORD_AXIOM = 5;
    private static final int WORD_LEMMA = 6;
    private static final int WORD_QED = 7;
    private static final int WORD_ABORT = 8;
    private static final int WORD_INTRO = 9;
    private static final int WORD_EXACT = 10;
    private static final int WORD_APPLY = 11;
    private static final int WORD_SPLIT = 12;
    private static final int WORD_LEFT = 13;
    private static final int WORD_RIGHT = 14;
    private static final int WORD_CASES = 15;
    private static final int WORD_ABSURD = 16;
    private static final int WORD_GIVE = 17;
    private static final int WORD_USE = 18;
    private static final int WORD_SAME = 19;
    private static final int WORD_REWRITE = 20;
    private static final int WORD_HAVE = 21;

    private final Bytes tape = new Bytes(TAPE_MOST);
    private final Frames frames = new Frames();
    private final Json json = new Json();
    private final Bytes output = new Bytes(OUTPUT_MOST);
    private final Bytes body = new Bytes(1024);
    private final Kernel kernel = new Kernel();
    private final Printer printer = new Printer(kernel.names);
    private final List<Document> open = new ArrayList<>();
    private final List<Request> waiting = new ArrayList<>();
    // What came of the last checks, the latest one last.
    private final List<State> cache = new ArrayList<>();
    private final Document[] hands = new Document[WORKERS];
    private int phase = NEW;
    private int steps;
    private int reused;
    private int lost;
    // Where a text is made before it takes a document's place.
    private Document spare = new Document();
    // The latest batch; null before the first one.
    private Document latest;
    private final Bytes shown = new Bytes(256);
    private int shownOf = -2;

    public ProofServer() {
    }

    public int feed(int a, int b, int c, int d, int e) {
        if (tape.count > TAPE_MOST - FED_AT_ONCE) {
            return -1;
        }
        putOnTape(a);
        putOnTape(b);
        putOnTape(c);
        putOnTape(d);
        putOnTape(e);
        return tape.count;
    }

    public int give(int n) {
        if (n < 0 || n > tape.count) {
            return -1;
        }
        for (int i = 0; i < n && i < tape.row.length && !frames.broken; i++) {
            if (frames.accept(tape.row[i] & 255)) {
                Request asked = understood();
                if (asked != null && asked.id != null) {
                    request(asked);
                } else if (asked != null) {
                    notification();
                }
            }
        }
        tape.count = 0;
        return output.count;
    }

    public int out(int i) {
        return i < 0 || i >= output.count ? -1 : output.row[i] & 255;
    }

    public int take() {
        int had = output.count;
        output.count = 0;
        return had;
    }

    public int work(int k) {
        if (k < 0 || k > STEPS_MOST) {
            return -1;
        }
        int done = 0;
        for (; done < k && hasWork(); done++) {
            for (int w = 0; w < WORKERS; w++) {
                advance(w);
            }
        }
        steps += done;
        return done;
    }

    public int state(int what) {
        switch (what) {
            case 0: return frames.broken ? 1 : 0;
            case 1: return frames.broken ? 0 : frames.kept;
            case 2: return frames.messages;
            case 3: return open.size();
            case 4: return waiting.size();
            case 5: return cache.size();
            case 6: return steps;
            case 7: return reused;
            case 8: return lost;
            case 9: return tape.count;
            case 10: return output.count;
            case 11: return numberOf(hands[0]);
            case 12: return numberOf(hands[1]);
            default: return -1;
        }
    }

    public int document(int d, int what) {
        Document opened = openAt(d);
        if (opened == null) {
            return -1;
        }
        switch (what) {
            case 0: return opened.version;
            case 1: return opened.length;
            case 2: return opened.sentences;
            case 3: return opened.checked;
            default: return -1;
        }
    }

    public int unit(int d, int i) {
        Document opened = openAt(d);
        return opened == null || i < 0 || i >= opened.length ? -1 : opened.text[i];
    }

    public int sentence(int d, int k, int what) {
        Document opened = openAt(d);
        if (opened == null || k < 0 || k >= opened.sentences) {
            return -1;
        }
        boolean isChecked = k < opened.checked && opened.behind[k] != null;
        switch (what) {
            case 0: return opened.starts[k];
            case 1: return opened.ends[k];
            case 2: return isChecked ? 1 : 0;
            case 3: return isChecked ? opened.behind[k].fault : -1;
            case 4: return opened.costs[k];
            default: return -1;
        }
    }

    public int batch(int n) {
        if (n < 0 || n > tape.count) {
            return -1;
        }
        tape.count = 0;
        Document fresh = spare;
        if (!fresh.decode(tape.row, n)) {
            return -2;
        }
        spare = latest == null ? new Document() : latest;
        latest = fresh;
        shownOf = -2;
        fresh.part(kernel.syntax);
        for (int k = 0; k < fresh.sentences; k++) {
            int[] units = Arrays.copyOfRange(fresh.text, fresh.starts[k], fresh.ends[k]);
            fresh.behind[k] = kernel.check(fresh.stateBehind(k, kernel.start), units, fresh.early[k]);
        }
        return fresh.sentences;
    }

    public int verdict(int k, int what) {
        if (latest == null || k < 0 || k >= latest.sentences || latest.behind[k] == null) {
            return -1;
        }
        State behind = latest.behind[k];
        switch (what) {
            case 0: return latest.starts[k];
            case 1: return latest.ends[k];
            case 2: return behind.fault;
            case 3: return latest.costs[k];
            case 4: return behind.lemma < 0 ? -1 : behind.goals.length;
            case 5: return behind.factNames.length;
            default: return -1;
        }
    }

    public int goals(int k, int i) {
        if (latest == null || k < -1 || k >= latest.sentences) {
            return -1;
        }
        // A client reads an answer byte by byte: what was printed last is kept for the next one.
        if (shownOf != k) {
            shown.count = 0;
            printer.proof(latest.stateBehind(k + 1, kernel.start), shown);
            shownOf = k;
        }
        return i < 0 || i >= shown.count ? -1 : shown.row[i] & 255;
    }

    private void putOnTape(int four) {
        for (int shift = 24; shift >= 0; shift -= 8) {
            tape.put(four >> shift);
        }
    }

    private Document openAt(int d) {
        return d < 0 || d >= open.size() ? null : open.get(d);
    }

    private int numberOf(Document wanted) {
        for (int d = 0; d < open.size(); d++) {
            if (open.get(d) == wanted) {
                return d;
            }
        }
        return -1;
    }

    // ---- messages

    /** The message that has come, with an id if it is a request; null when it was neither (and that is answered). */
    private Request understood() {
        boolean isJson = json.read(frames.body, frames.length);
        int id = isJson ? json.member(0, "id") : -1;
        Request asked = new Request(json, id);
        if (!isJson) {
            refuse(asked, NOT_JSON);
            return null;
        }
        int params = json.member(0, "params");
        boolean isMessage = json.isText(json.member(0, "jsonrpc"), "2.0")
                && json.kindOf(json.member(0, "method")) == Json.STRING
                && (params < 0 || json.kindOf(params) == Json.OBJECT)
                && (id < 0 || asked.id != null);
        if (!isMessage) {
            refuse(asked, NO_REQUEST);
            return null;
        }
        return asked;
    }

    private void request(Request asked) {
        int method = json.member(0, "method");
        boolean isInitialize = json.isText(method, "initialize");
        if (phase == NEW && isInitialize) {
            phase = READY;
            beginAnswer(asked, ",\"result\":");
            body.text("{\"capabilities\":{\"textDocumentSync\":2}}}");
            send();
        } else if (phase == NEW) {
            refuse(asked, NOT_INITIALIZED);
        } else if (phase == SHUT || isInitialize) {
            refuse(asked, NO_REQUEST);
        } else if (json.isText(method, "shutdown")) {
            phase = SHUT;
            beginAnswer(asked, ",\"result\":");
            body.text("null}");
            send();
        } else if (json.isText(method, "proof/goals")) {
            answerOrWait(asked, aimAtPlace(asked));
        } else if (json.isText(method, "proof/statement")) {
            answerOrWait(asked, aimAtName(asked));
        } else {
            refuse(asked, NO_METHOD);
        }
    }

    private void notification() {
        int method = json.member(0, "method");
        if (json.isText(method, "exit")) {
            frames.broken = true;
        } else if (phase != READY) {
            return;
        } else if (json.isText(method, "textDocument/didOpen")) {
            openDocument();
        } else if (json.isText(method, "textDocument/didChange")) {
            changeDocument();
        } else if (json.isText(method, "textDocument/didClose")) {
            closeDocument();
        } else if (json.isText(method, "$/cancelRequest")) {
            cancelRequest();
        }
    }

    /** The open document that the message is about; null when it tells none. */
    private Document addressed() {
        int uri = json.member(json.member(json.member(0, "params"), "textDocument"), "uri");
        for (int d = 0; d < open.size(); d++) {
            if (json.isUnits(uri, open.get(d).uri)) {
                return open.get(d);
            }
        }
        return null;
    }

    private void openDocument() {
        int told = json.member(json.member(0, "params"), "textDocument");
        int uri = json.member(told, "uri");
        int version = json.member(told, "version");
        int text = json.member(told, "text");
        boolean isTold = json.kindOf(uri) == Json.STRING && json.sizeOf(uri) >= 1 && json.sizeOf(uri) <= URI_MOST
                && json.kindOf(version) == Json.INT
                && json.kindOf(text) == Json.STRING && json.sizeOf(text) <= TEXT_MOST;
        if (!isTold || addressed() != null || open.size() >= OPEN_MOST) {
            return;
        }
        Document opened = new Document();
        opened.uri = json.unitsOf(uri);
        opened.version = json.valueOf(version);
        opened.replace(0, 0, json, text);
        opened.part(kernel.syntax);
        open.add(opened);
        if (opened.checked == opened.sentences) {
            publish(opened, true);
        }
    }

    private void changeDocument() {
        int params = json.member(0, "params");
        int version = json.member(json.member(params, "textDocument"), "version");
        int changes = json.member(params, "contentChanges");
        Document changed = addressed();
        if (changed == null || json.kindOf(version) != Json.INT || json.valueOf(version) <= changed.version
                || json.kindOf(changes) != Json.LIST || json.sizeOf(changes) < 1 || json.sizeOf(changes) > CHANGES_MOST) {
            return;
        }
        spare.copyText(changed);
        int change = json.firstOf(changes);
        for (int i = 0; i < json.sizeOf(changes); i++) {
            if (!makeChange(change)) {
                return;
            }
            change = json.nextOf(change);
        }
        dismiss(changed);
        changed.copyText(spare);
        changed.version = json.valueOf(version);
        changed.part(kernel.syntax);
        if (!changed.keepChecked()) {
            release(changed);
        }
        if (changed.checked == changed.sentences) {
            publish(changed, true);
        }
    }

    /** Makes one change at the text that is edited: false when it can't be made. */
    private boolean makeChange(int change) {
        int text = json.member(change, "text");
        int range = json.member(change, "range");
        if (json.kindOf(text) != Json.STRING) {
            return false;
        }
        if (range < 0) {
            return spare.replace(0, spare.length, json, text);
        }
        int start = placeTold(json.member(range, "start"), spare);
        int end = placeTold(json.member(range, "end"), spare);
        return start >= 0 && end >= start && spare.replace(start, end, json, text);
    }

    /** The place in the document that a line and a character tell; -1 when they tell none. */
    private int placeTold(int position, Document about) {
        int line = json.member(position, "line");
        int character = json.member(position, "character");
        if (json.kindOf(line) != Json.INT || json.kindOf(character) != Json.INT) {
            return -1;
        }
        return about.placeOf(json.valueOf(line), json.valueOf(character));
    }

    private void closeDocument() {
        Document closed = addressed();
        int number = numberOf(closed);
        if (closed == null || number < 0) {
            return;
        }
        release(closed);
        dismiss(closed);
        open.remove(number);
        publish(closed, false);
    }

    private void cancelRequest() {
        Request named = new Request(json, json.member(json.member(0, "params"), "id"));
        for (int i = 0; i < waiting.size(); i++) {
            if (waiting.get(i).hasIdOf(named)) {
                refuse(waiting.remove(i), CANCELLED);
                return;
            }
        }
    }

    private boolean aimAtPlace(Request asked) {
        Document about = addressed();
        int position = json.member(json.member(0, "params"), "position");
        int place = about == null ? -1 : placeTold(position, about);
        if (place < 0) {
            return false;
        }
        asked.about = about;
        asked.needed = about.endedBy(place);
        return true;
    }

    private boolean aimAtName(Request asked) {
        Document about = addressed();
        int name = json.member(json.member(0, "params"), "name");
        if (about == null || json.kindOf(name) != Json.STRING) {
            return false;
        }
        int[] units = json.unitsOf(name);
        asked.about = about;
        asked.needed = about.sentences;
        asked.isStatement = true;
        asked.name = kernel.names.numberOf(units, 0, units.length, false);
        return true;
    }

    private void answerOrWait(Request asked, boolean isAimed) {
        if (!isAimed) {
            refuse(asked, BAD_PARAMS);
        } else if (asked.isReady()) {
            reply(asked);
        } else if (waiting.size() < WAITING_MOST) {
            waiting.add(asked);
        } else {
            refuse(asked, NO_REQUEST);
        }
    }

    /** Answers those that wait for a document that has changed or is closed. */
    private void dismiss(Document about) {
        int passed = 0;
        for (int turn = 0; turn < WAITING_MOST && passed < waiting.size(); turn++) {
            if (waiting.get(passed).about == about) {
                refuse(waiting.remove(passed), MODIFIED);
            } else {
                passed++;
            }
        }
    }

    private void answerReady() {
        int passed = 0;
        for (int turn = 0; turn < WAITING_MOST && passed < waiting.size(); turn++) {
            if (waiting.get(passed).isReady()) {
                reply(waiting.remove(passed));
            } else {
                passed++;
            }
        }
    }

    private void reply(Request asked) {
        State behind = asked.about == null ? kernel.start : asked.about.stateBehind(asked.needed, kernel.start);
        beginAnswer(asked, ",\"result\":");
        if (asked.isStatement) {
            printer.statement(behind, asked.name, body);
        } else {
            printer.proof(behind, body);
        }
        body.put('}');
        send();
    }

    private void refuse(Request asked, int code) {
        beginAnswer(asked, ",\"error\":{\"code\":");
        body.number(code);
        body.text(",\"message\":\"");
        body.text(errorText(code));
        body.text("\"}}");
        send();
    }

    private static String errorText(int code) {
        switch (code) {
            case NOT_JSON: return "not json";
            case NO_REQUEST: return "no request";
            case NO_METHOD: return "no method";
            case BAD_PARAMS: return "bad params";
            case NOT_INITIALIZED: return "not initialized";
            case CANCELLED: return "cancelled";
            default: return "modified";
        }
    }

    private void beginAnswer(Request asked, String then) {
        body.count = 0;
        body.text("{\"jsonrpc\":\"2.0\",\"id\":");
        if (asked.id == null) {
            body.text("null");
        } else {
            body.append(asked.id);
        }
        body.text(then);
    }

    private void publish(Document about, boolean withFaults) {
        body.count = 0;
        body.text("{\"jsonrpc\":\"2.0\",\"method\":\"textDocument/publishDiagnostics\",\"params\":{\"uri\":");
        body.quoted(about.uri, 0, about.uri.length);
        body.text(",\"version\":");
        body.number(about.version);
        body.text(",\"diagnostics\":[");
        boolean isFirst = true;
        about.rewind();
        for (int k = 0; withFaults && k < about.checked && k < SENTENCES_MOST; k++) {
            if (about.behind[k] != null && about.behind[k].fault > 0) {
                if (!isFirst) {
                    body.put(',');
                }
                isFirst = false;
                diagnostic(about, k);
            }
        }
        body.text("]}}");
        send();
    }

    private void diagnostic(Document about, int k) {
        body.text("{\"range\":{\"start\":");
        position(about, about.starts[k]);
        body.text(",\"end\":");
        position(about, about.ends[k]);
        body.text("},\"severity\":1,\"message\":\"");
        body.text(faultText(about.behind[k].fault));
        body.text("\"}");
    }

    private void position(Document about, int place) {
        about.seek(place);
        body.text("{\"line\":");
        body.number(about.line);
        body.text(",\"character\":");
        body.number(place - about.lineStart);
        body.put('}');
    }

    private static String faultText(int fault) {
        switch (fault) {
            case UNFINISHED: return "unfinished";
            case TOO_MUCH: return "too much";
            case SYNTAX: return "syntax";
            case NOT_HERE: return "not here";
            case UNKNOWN: return "unknown";
            case TAKEN: return "taken";
            case OPEN_GOALS: return "open goals";
            case NO_MATCH: return "no match";
            default: return "too large";
        }
    }

    /** Writes the message that the body holds as a frame, if the output has room for all of it. */
    private void send() {
        if (frames.broken) {
            return;
        }
        int digits = 1;
        for (int rest = body.count; rest >= 10; rest /= 10) {
            digits++;
        }
        if (output.count + 20 + digits + body.count > OUTPUT_MOST) {
            lost++;
            return;
        }
        output.text("Content-Length: ");
        output.number(body.count);
        output.text("\r\n\r\n");
        output.append(body);
    }

    // ---- workers

    private boolean hasWork() {
        for (int w = 0; w < WORKERS; w++) {
            if (hands[w] != null) {
                return true;
            }
        }
        return nextToCheck() != null;
    }

    /** The document of which a worker takes the next sentence; null when there is none. */
    private Document nextToCheck() {
        Document first = null;
        for (int d = 0; d < open.size(); d++) {
            Document opened = open.get(d);
            if (opened.checking == null && opened.checked < opened.sentences) {
                if (isAskedAbout(opened)) {
                    return opened;
                }
                if (first == null) {
                    first = opened;
                }
            }
        }
        return first;
    }

    private boolean isAskedAbout(Document opened) {
        for (int i = 0; i < waiting.size(); i++) {
            if (waiting.get(i).about == opened) {
                return true;
            }
        }
        return false;
    }

    private void advance(int w) {
        if (hands[w] == null) {
            hands[w] = nextToCheck();
            if (hands[w] == null) {
                return;
            }
            begin(hands[w]);
        }
        Document held = hands[w];
        held.left--;
        if (held.left > 0 || held.checking == null) {
            return;
        }
        State behind = held.found;
        if (behind != null) {
            reused++;
        } else {
            behind = kernel.check(held.stateBehind(held.checked, kernel.start), held.checking, held.earlyFault());
        }
        held.addChecked(behind);
        remember(behind);
        release(held);
        if (held.checked == held.sentences) {
            publish(held, true);
        }
        answerReady();
    }

    /** Takes the next sentence of the document: its check costs one step when the cache has what comes of it. */
    private void begin(Document held) {
        int k = held.checked;
        if (k < 0 || k >= SENTENCES_MOST) {
            return;
        }
        State ahead = held.stateBehind(k, kernel.start);
        held.found = null;
        for (int i = 0; i < cache.size() && held.found == null; i++) {
            State kept = cache.get(i);
            if (held.isSentence(k, kept.units) && State.isSameRow(kept.ahead, ahead)) {
                held.found = kept;
            }
        }
        if (held.found != null) {
            held.checking = held.found.units;
            held.left = 1;
        } else {
            held.checking = Arrays.copyOfRange(held.text, held.starts[k], held.ends[k]);
            held.left = held.costs[k];
        }
    }

    private void remember(State behind) {
        int like = 0;
        while (like < cache.size() && !State.isSameRow(cache.get(like), behind)) {
            like++;
        }
        if (like < cache.size()) {
            cache.remove(like);
        } else if (cache.size() >= CACHE_MOST) {
            cache.remove(0);
        }
        cache.add(behind);
    }

    /** The document's check, if one goes on, is no more. */
    private void release(Document held) {
        held.checking = null;
        held.found = null;
        held.left = 0;
        for (int w = 0; w < WORKERS; w++) {
            if (hands[w] == held) {
                hands[w] = null;
            }
        }
    }

    // ---- texts and formulas

    private static boolean isBlank(int u) {
        return u == ' ' || u == '\t' || u == '\n' || u == '\r';
    }

    private static boolean isDigit(int u) {
        return u >= '0' && u <= '9';
    }

    private static boolean isLetter(int u) {
        return u >= 'a' && u <= 'z' || u >= 'A' && u <= 'Z';
    }

    private static boolean opensComment(int[] text, int at, int end) {
        return at >= 0 && at + 1 < end && end <= text.length && text[at] == '(' && text[at + 1] == '*';
    }

    /** The place behind the comment that begins at a place; -1 when none begins there, or it has no end. */
    private static int commentEnd(int[] text, int from, int end) {
        if (!opensComment(text, from, end)) {
            return -1;
        }
        int depth = 1;
        for (int at = from + 2; at + 1 < end; at++) {
            if (text[at] == '(' && text[at + 1] == '*') {
                depth++;
                at++;
            } else if (text[at] == '*' && text[at + 1] == ')') {
                depth--;
                at++;
                if (depth == 0) {
                    return at + 1;
                }
            }
        }
        return -1;
    }

    /** The place behind the formula or term that begins at a node. */
    private static int endOf(int[] nodes, int from, int limit) {
        int open = 1;
        int at = from;
        for (; at < limit && at < nodes.length && open > 0; at++) {
            int kind = nodes[at] & KIND;
            if (kind >= IMPLIES && kind <= EQUALS) {
                open++;
            } else if (kind == PREDICATE || kind == FUNCTION) {
                open += (nodes[at] >> TERMS_SHIFT & TERMS_MASK) - 1;
            } else if (kind != FORALL && kind != EXISTS) {
                open--;
            }
        }
        return at;
    }

    /** A row of bytes that grows as it is written. */
    private static final class Bytes {
        private static final int ROOM_MOST = 1000000;

        byte[] row;
        int count;

        Bytes(int room) {
            row = new byte[Math.max(room, 16)];
        }

        void put(int b) {
            if (count >= row.length && count < ROOM_MOST) {
                row = Arrays.copyOf(row, 2 * row.length);
            }
            if (count >= 0 && count < row.length) {
                row[count] = (byte) b;
                count++;
            }
        }

        void text(String signs) {
            for (int i = 0; i < signs.length(); i++) {
                put(signs.charAt(i));
            }
        }

        void append(Bytes other) {
            for (int i = 0; i < other.count && i < other.row.length; i++) {
                put(other.row[i]);
            }
        }

        void number(int n) {
            long rest = n;
            if (rest < 0) {
                put('-');
                rest = -rest;
            }
            boolean isBegun = false;
            for (long power = 1000000000L; power > 0; power /= 10) {
                long digit = rest / power % 10;
                isBegun = isBegun || digit > 0 || power == 1;
                if (isBegun) {
                    put((int) ('0' + digit));
                }
            }
        }

        /** Writes units as a JSON string. */
        void quoted(int[] units, int from, int size) {
            put('"');
            int stop = Math.min(from + size, units.length);
            for (int i = Math.max(from, 0); i < stop; i++) {
                int u = units[i];
                if (isHigh(u) && i + 1 < stop && isLow(units[i + 1])) {
                    i++;
                    character(0x10000 + (u - 0xD800 << 10) + units[i] - 0xDC00);
                } else if (isHigh(u) || isLow(u)) {
                    character(0xFFFD);
                } else if (u < 32) {
                    text("\\u00");
                    put('0' + (u >> 4));
                    put((u & 15) < 10 ? '0' + (u & 15) : 'a' + (u & 15) - 10);
                } else {
                    if (u == '"' || u == '\\') {
                        put('\\');
                    }
                    character(u);
                }
            }
            put('"');
        }

        private void character(int c) {
            if (c < 0x80) {
                put(c);
                return;
            }
            if (c < 0x800) {
                put(0xC0 | c >> 6);
            } else {
                if (c < 0x10000) {
                    put(0xE0 | c >> 12);
                } else {
                    put(0xF0 | c >> 18);
                    put(0x80 | c >> 12 & 63);
                }
                put(0x80 | c >> 6 & 63);
            }
            put(0x80 | c & 63);
        }

        static boolean isHigh(int u) {
            return u >= 0xD800 && u < 0xDC00;
        }

        static boolean isLow(int u) {
            return u >= 0xDC00 && u < 0xE000;
        }

        /** The char whose UTF-8 stands at a place; -1 when there is none. */
        static int decoded(byte[] row, int at, int end) {
            if (at < 0 || at >= end || end > row.length) {
                return -1;
            }
            int first = row[at] & 255;
            if (first < 0x80) {
                return first;
            }
            int more = first >= 0xF0 ? 3 : first >= 0xE0 ? 2 : 1;
            if (first < 0xC2 || first > 0xF4 || more >= end - at) {
                return -1;
            }
            int c = first & 63 >> more;
            for (int i = 1; i <= more; i++) {
                int b = row[at + i] & 255;
                if ((b & 0xC0) != 0x80) {
                    return -1;
                }
                c = c << 6 | b & 63;
            }
            boolean isTooLong = more == 2 && c < 0x800 || more == 3 && c < 0x10000;
            return isTooLong || c > 0x10FFFF || c >= 0xD800 && c < 0xE000 ? -1 : c;
        }

        static int decodedSize(int c) {
            return c < 0x80 ? 1 : c < 0x800 ? 2 : c < 0x10000 ? 3 : 4;
        }
    }

    /** The bytes of the client, parted into frames. */
    private static final class Frames {
        private static final String LENGTH_NAME = "content-length";
        private static final int LENGTH_DIGITS = 4;
        private static final int AT_LINE = 0;
        private static final int IN_NAME = 1;
        private static final int IN_VALUE = 2;
        private static final int IN_LENGTH = 3;
        private static final int AT_LINE_END = 4;
        private static final int AT_LAST_END = 5;
        private static final int IN_BODY = 6;

        final byte[] body = new byte[BODY_MOST];
        int length;
        int kept;
        int messages;
        boolean broken;
        private int place = AT_LINE;
        private int told = -1;
        private int filled;
        private int signs;
        private boolean isLengthName;
        private int digits;
        private int value;

        /** Takes one byte: whether a frame is whole with it, whose body is held then. */
        boolean accept(int b) {
            if (broken) {
                return false;
            }
            if (place == IN_BODY) {
                if (filled < body.length) {
                    body[filled] = (byte) b;
                }
                filled++;
            } else if (kept >= HEADERS_MOST || !isHeader(b)) {
                broken = true;
                return false;
            }
            kept++;
            if (place != IN_BODY || filled < told) {
                return false;
            }
            length = told;
            told = -1;
            filled = 0;
            kept = 0;
            place = AT_LINE;
            messages++;
            return true;
        }

        private boolean isHeader(int b) {
            switch (place) {
                case AT_LINE: return isLineBegin(b);
                case IN_NAME: return isInName(b);
                case IN_VALUE: return isInValue(b);
                case IN_LENGTH: return isInLength(b);
                case AT_LINE_END:
                    place = AT_LINE;
                    return b == '\n';
                default:
                    place = IN_BODY;
                    return b == '\n';
            }
        }

        private boolean isLineBegin(int b) {
            if (b == '\r') {
                place = AT_LAST_END;
                return told >= 0;
            }
            place = IN_NAME;
            signs = 0;
            isLengthName = true;
            return b != ':' && isInName(b);
        }

        private boolean isInName(int b) {
            if (b == ':') {
                place = isLengthName && signs == LENGTH_NAME.length() ? IN_LENGTH : IN_VALUE;
                digits = 0;
                value = 0;
                return true;
            }
            int small = b >= 'A' && b <= 'Z' ? b + 32 : b;
            isLengthName = isLengthName && signs < LENGTH_NAME.length() && LENGTH_NAME.charAt(signs) == small;
            signs++;
            return small == '-' || small >= 'a' && small <= 'z';
        }

        private boolean isInValue(int b) {
            if (b == '\r') {
                place = AT_LINE_END;
                return true;
            }
            return b >= 32 && b <= 126;
        }

        private boolean isInLength(int b) {
            if (b == '\r') {
                place = AT_LINE_END;
                told = value;
                return digits > 0;
            }
            if (b < '0' || b > '9') {
                return b == ' ' && digits == 0;
            }
            digits++;
            value = value * 10 + b - '0';
            return digits <= LENGTH_DIGITS && value <= BODY_MOST;
        }
    }

    /** A JSON text, its values kept in rows that are used again for the next one; the root is value 0. */
    private static final class Json {
        static final int NONE = 0;
        static final int OBJECT = 1;
        static final int LIST = 2;
        static final int STRING = 3;
        static final int INT = 4;
        static final int OTHER = 5;
        private static final long INT_LEAST = -2147483648L;
        private static final long INT_MOST = 2147483647L;
        // A value takes two bytes at least, with what parts it from the next one.
        private static final int VALUES_MOST = BODY_MOST / 2 + 2;

        private final int[] kinds = new int[VALUES_MOST];
        // Of a string its first unit, of a list or object its first value, of an int itself.
        private final int[] firsts = new int[VALUES_MOST];
        private final int[] sizes = new int[VALUES_MOST];
        private final int[] nexts = new int[VALUES_MOST];
        private final int[] keyFirsts = new int[VALUES_MOST];
        private final int[] keySizes = new int[VALUES_MOST];
        private final int[] units = new int[BODY_MOST];
        private int values;
        private int unitCount;
        private byte[] bytes = new byte[0];
        private int end;
        private int at;

        boolean read(byte[] text, int length) {
            bytes = text;
            end = Math.min(length, text.length);
            at = 0;
            values = 0;
            unitCount = 0;
            skipBlanks();
            int root = value(0);
            skipBlanks();
            return root == 0 && at == end;
        }

        int kindOf(int value) {
            return value < 0 || value >= values ? NONE : kinds[value];
        }

        int sizeOf(int value) {
            return value < 0 || value >= values ? 0 : sizes[value];
        }

        int valueOf(int value) {
            return value < 0 || value >= values ? 0 : firsts[value];
        }

        int firstOf(int value) {
            return value < 0 || value >= values ? -1 : firsts[value];
        }

        int nextOf(int value) {
            return value < 0 || value >= values ? -1 : nexts[value];
        }

        /** The last member of that name; -1 when there is none, or it is no object. */
        int member(int object, String name) {
            if (kindOf(object) != OBJECT) {
                return -1;
            }
            int found = -1;
            int child = firsts[object];
            for (int i = 0; i < sizes[object] && child >= 0 && child < values; i++) {
                if (areUnits(keyFirsts[child], keySizes[child], name)) {
                    found = child;
                }
                child = nexts[child];
            }
            return found;
        }

        boolean isText(int value, String text) {
            return kindOf(value) == STRING && areUnits(firsts[value], sizes[value], text);
        }

        private boolean areUnits(int first, int size, String text) {
            if (size != text.length() || first < 0 || first + size > units.length) {
                return false;
            }
            for (int i = 0; i < size; i++) {
                if (units[first + i] != text.charAt(i)) {
                    return false;
                }
            }
            return true;
        }

        boolean isUnits(int value, int[] wanted) {
            if (kindOf(value) != STRING || sizes[value] != wanted.length) {
                return false;
            }
            for (int i = 0; i < wanted.length; i++) {
                if (unitAt(value, i) != wanted[i]) {
                    return false;
                }
            }
            return true;
        }

        int unitAt(int value, int i) {
            int place = kindOf(value) == STRING ? firsts[value] + i : -1;
            return i < 0 || i >= sizeOf(value) || place < 0 || place >= units.length ? 0 : units[place];
        }

        int[] unitsOf(int value) {
            int[] row = new int[kindOf(value) == STRING ? Math.max(sizes[value], 0) : 0];
            for (int i = 0; i < row.length; i++) {
                row[i] = unitAt(value, i);
            }
            return row;
        }

        private int peek() {
            return at >= 0 && at < end ? bytes[at] & 255 : -1;
        }

        private void skipBlanks() {
            while (at < end && isBlank(peek())) {
                at++;
            }
        }

        private int make(int kind, int first, int size) {
            if (values >= VALUES_MOST) {
                return -1;
            }
            kinds[values] = kind;
            firsts[values] = first;
            sizes[values] = size;
            nexts[values] = -1;
            keyFirsts[values] = 0;
            keySizes[values] = 0;
            values++;
            return values - 1;
        }

        /** Reads a value within so many lists and objects: its number, or -1 when there is none. */
        private int value(int depth) {
            int b = peek();
            if (b == '{' || b == '[') {
                return depth < JSON_DEEPEST ? holder(depth + 1, b == '{') : -1;
            }
            if (b == '"') {
                int first = unitCount;
                return isString() ? make(STRING, first, unitCount - first) : -1;
            }
            if (b == '-' || isDigit(b)) {
                return number();
            }
            boolean isWord = isWord("true") || isWord("false") || isWord("null");
            return isWord ? make(OTHER, 0, 0) : -1;
        }

        private int holder(int depth, boolean isObject) {
            int holder = make(isObject ? OBJECT : LIST, -1, 0);
            int close = isObject ? '}' : ']';
            at++;
            skipBlanks();
            if (peek() == close) {
                at++;
                return holder;
            }
            int last = -1;
            for (int i = 0; i < VALUES_MOST && holder >= 0; i++) {
                int keyFirst = unitCount;
                if (isObject && !isString()) {
                    return -1;
                }
                int keySize = unitCount - keyFirst;
                if (isObject && !isColon()) {
                    return -1;
                }
                int child = value(depth);
                if (child < 0) {
                    return -1;
                }
                keyFirsts[child] = keyFirst;
                keySizes[child] = keySize;
                if (last < 0) {
                    firsts[holder] = child;
                } else {
                    nexts[last] = child;
                }
                last = child;
                sizes[holder]++;
                skipBlanks();
                int b = peek();
                at++;
                if (b != ',') {
                    return b == close ? holder : -1;
                }
                skipBlanks();
            }
            return -1;
        }

        private boolean isColon() {
            skipBlanks();
            boolean isThere = peek() == ':';
            at++;
            skipBlanks();
            return isThere;
        }

        private boolean isWord(String word) {
            for (int i = 0; i < word.length(); i++) {
                if (at + i >= end || bytes[at + i] != word.charAt(i)) {
                    return false;
                }
            }
            at += word.length();
            return true;
        }

        private int number() {
            boolean isNegative = peek() == '-';
            if (isNegative) {
                at++;
            }
            int from = at;
            int whole = digits();
            if (whole == 0 || whole > 1 && bytes[from] == '0') {
                return -1;
            }
            boolean isInt = true;
            if (peek() == '.') {
                isInt = false;
                at++;
                if (digits() == 0) {
                    return -1;
                }
            }
            if (peek() == 'e' || peek() == 'E') {
                isInt = false;
                at++;
                if (peek() == '+' || peek() == '-') {
                    at++;
                }
                if (digits() == 0) {
                    return -1;
                }
            }
            long value = 0;
            for (int i = from; i < from + whole && value <= INT_MOST + 1; i++) {
                value = value * 10 + bytes[i] - '0';
            }
            value = isNegative ? -value : value;
            isInt = isInt && value >= INT_LEAST && value <= INT_MOST;
            return isInt ? make(INT, (int) value, 0) : make(OTHER, 0, 0);
        }

        private int digits() {
            int from = at;
            while (at < end && isDigit(peek())) {
                at++;
            }
            return at - from;
        }

        /** Reads a string, its units behind those that were read before. */
        private boolean isString() {
            if (peek() != '"') {
                return false;
            }
            at++;
            for (int i = 0; i < end && at < end; i++) {
                int c = Bytes.decoded(bytes, at, end);
                if (c == '"') {
                    at++;
                    return true;
                }
                if (c < 32) {
                    return false;
                }
                if (c == '\\') {
                    boolean isFine = isWord("\\u") ? isUnitEscape() : isEscape();
                    if (!isFine) {
                        return false;
                    }
                } else {
                    at += Bytes.decodedSize(c);
                    addChar(c);
                }
            }
            return false;
        }

        private void addChar(int c) {
            if (c >= 0x10000) {
                addUnit(0xD800 + (c - 0x10000 >> 10));
                addUnit(0xDC00 + (c - 0x10000 & 1023));
            } else {
                addUnit(c);
            }
        }

        private void addUnit(int u) {
            if (unitCount < units.length) {
                units[unitCount] = u;
                unitCount++;
            }
        }

        private boolean isEscape() {
            at++;
            int b = peek();
            at++;
            switch (b) {
                case '"': case '\\': case '/': addUnit(b); return true;
                case 'b': addUnit(8); return true;
                case 'f': addUnit(12); return true;
                case 'n': addUnit(10); return true;
                case 'r': addUnit(13); return true;
                case 't': addUnit(9); return true;
                default: return false;
            }
        }

        private boolean isUnitEscape() {
            int u = fourDigits();
            if (u < 0 || Bytes.isLow(u)) {
                return false;
            }
            addUnit(u);
            if (!Bytes.isHigh(u)) {
                return true;
            }
            if (!isWord("\\u")) {
                return false;
            }
            int low = fourDigits();
            addUnit(low);
            return Bytes.isLow(low);
        }

        private int fourDigits() {
            int u = 0;
            for (int i = 0; i < 4; i++) {
                int b = at < end ? bytes[at] : -1;
                int small = b >= 'A' && b <= 'F' ? b + 32 : b;
                boolean isLetter = small >= 'a' && small <= 'f';
                if (!isLetter && (b < '0' || b > '9')) {
                    return -1;
                }
                u = u << 4 | (isLetter ? small - 'a' + 10 : b - '0');
                at++;
            }
            return u;
        }
    }

    /** A request, or a notification (which has no id). */
    private static final class Request {
        // As it is written: ids are the same when they are written the same.
        final Bytes id;
        Document about;
        int needed;
        boolean isStatement;
        int name = -1;

        Request(Json json, int value) {
            boolean isInt = json.kindOf(value) == Json.INT;
            boolean isString = json.kindOf(value) == Json.STRING && json.sizeOf(value) <= ID_MOST;
            id = isInt || isString ? new Bytes(16) : null;
            if (isInt) {
                id.number(json.valueOf(value));
            } else if (isString) {
                int[] units = json.unitsOf(value);
                id.quoted(units, 0, units.length);
            }
        }

        boolean isReady() {
            return about == null || about.checked >= needed;
        }

        boolean hasIdOf(Request other) {
            if (id == null || other.id == null || id.count != other.id.count) {
                return false;
            }
            for (int i = 0; i < id.count; i++) {
                if (id.row[i] != other.id.row[i]) {
                    return false;
                }
            }
            return true;
        }
    }

    /** A text with its sentences, how far they are checked, and the check that goes on. */
    private static final class Document {
        int[] uri = new int[0];
        int version;
        final int[] text = new int[TEXT_MOST];
        int length;
        int sentences;
        final int[] starts = new int[SENTENCES_MOST];
        final int[] ends = new int[SENTENCES_MOST];
        final int[] costs = new int[SENTENCES_MOST];
        // Faults 1 and 2, which are seen before the sentence is checked.
        final int[] early = new int[SENTENCES_MOST];
        final State[] behind = new State[SENTENCES_MOST];
        int checked;
        int[] checking;
        State found;
        int left;
        int line;
        int lineStart;
        private int cursor;

        void copyText(Document other) {
            System.arraycopy(other.text, 0, text, 0, TEXT_MOST);
            length = other.length;
        }

        /** Puts a string for the units start .. end - 1: false, doing nothing, when the text would be too long. */
        boolean replace(int start, int end, Json json, int string) {
            int size = json.sizeOf(string);
            int rest = length - end;
            if (start < 0 || end < start || rest < 0 || size < 0 || size > TEXT_MOST || start + size + rest > TEXT_MOST) {
                return false;
            }
            System.arraycopy(text, end, text, start + size, rest);
            for (int i = 0; i < size; i++) {
                text[start + i] = json.unitAt(string, i);
            }
            length = start + size + rest;
            return true;
        }

        /** Takes bytes as the text: false when it would be too long. */
        boolean decode(byte[] bytes, int count) {
            length = 0;
            int at = 0;
            for (int i = 0; i < count && at < count; i++) {
                int c = Bytes.decoded(bytes, at, count);
                at += c < 0 ? 1 : Bytes.decodedSize(c);
                int size = c >= 0x10000 ? 2 : 1;
                if (length + size > TEXT_MOST) {
                    return false;
                }
                if (size == 2) {
                    text[length] = 0xD800 + (c - 0x10000 >> 10);
                    text[length + 1] = 0xDC00 + (c - 0x10000 & 1023);
                } else {
                    text[length] = c < 0 ? 0xFFFD : c;
                }
                length += size;
            }
            return true;
        }

        State stateBehind(int count, State start) {
            return count < 1 || count > SENTENCES_MOST || behind[count - 1] == null ? start : behind[count - 1];
        }

        /** How many sentences end at the place or ahead of it. */
        int endedBy(int place) {
            int count = 0;
            while (count < sentences && ends[count] <= place) {
                count++;
            }
            return count;
        }

        /** Fault 1 or 2 of the sentence that is checked next; 0 without one. */
        int earlyFault() {
            return checked < sentences ? early[checked] : 0;
        }

        void addChecked(State next) {
            if (checked < sentences) {
                behind[checked] = next;
                checked++;
            }
        }

        boolean isSentence(int k, int[] units) {
            if (k < 0 || k >= sentences || ends[k] - starts[k] != units.length) {
                return false;
            }
            for (int i = 0; i < units.length; i++) {
                if (text[starts[k] + i] != units[i]) {
                    return false;
                }
            }
            return true;
        }

        /** Parts the text into sentences. */
        void part(Syntax syntax) {
            sentences = 0;
            int at = sentenceBegin(0);
            for (int k = 0; k < SENTENCES_MOST && at < length; k++) {
                int end = sentenceEnd(at);
                starts[k] = at;
                ends[k] = end < 0 ? length : end;
                early[k] = end < 0 ? UNFINISHED : 0;
                sentences = k + 1;
                at = sentenceBegin(ends[k]);
            }
            if (at < length && sentences == SENTENCES_MOST) {
                ends[SENTENCES_MOST - 1] = length;
                early[SENTENCES_MOST - 1] = TOO_MUCH;
            }
            for (int k = 0; k < sentences; k++) {
                // A sentence that is not read (faults 1 and 2) counts as one token.
                costs[k] = 3 + (early[k] > 0 ? 1 : syntax.scan(text, starts[k], ends[k]));
            }
        }

        /** The first place from there on that is neither blank nor in a comment that has an end. */
        private int sentenceBegin(int from) {
            int at = from;
            for (int i = 0; i <= length && at < length; i++) {
                if (isBlank(text[at])) {
                    at++;
                } else {
                    int behindComment = commentEnd(text, at, length);
                    if (behindComment < 0) {
                        return at;
                    }
                    at = behindComment;
                }
            }
            return at;
        }

        /** The place behind the . that ends the sentence; -1 when there is none. */
        private int sentenceEnd(int from) {
            int at = from;
            for (int i = 0; i <= length && at < length; i++) {
                if (opensComment(text, at, length)) {
                    at = commentEnd(text, at, length);
                    if (at < 0) {
                        return -1;
                    }
                } else {
                    boolean isPoint = text[at] == '.';
                    at++;
                    if (isPoint && (at == length || isBlank(text[at]) || opensComment(text, at, length))) {
                        return at;
                    }
                }
            }
            return -1;
        }

        /** Keeps what was checked and is as it was: whether the check that goes on stays. */
        boolean keepChecked() {
            int kept = 0;
            while (kept < checked && behind[kept] != null && isSentence(kept, behind[kept].units)) {
                kept++;
            }
            boolean stays = kept == checked && checking != null && isSentence(kept, checking);
            checked = kept;
            return stays;
        }

        /** The place of a character in a line; -1 when the line is not there. */
        int placeOf(int wantedLine, int character) {
            if (wantedLine < 0 || character < 0) {
                return -1;
            }
            int at = 0;
            int passed = 0;
            for (; at < length && passed < wantedLine; at++) {
                if (endsLine(at)) {
                    passed++;
                }
            }
            if (passed < wantedLine) {
                return -1;
            }
            int from = at;
            while (at < length && at - from < character && text[at] != '\n' && text[at] != '\r') {
                at++;
            }
            return at;
        }

        private boolean endsLine(int at) {
            boolean isReturn = text[at] == '\r';
            return text[at] == '\n' || isReturn && (at + 1 >= length || text[at + 1] != '\n');
        }

        void rewind() {
            line = 0;
            lineStart = 0;
            cursor = 0;
        }

        /** Counts lines up to a place, which is not ahead of the one before. */
        void seek(int place) {
            for (; cursor < place && cursor < length; cursor++) {
                if (endsLine(cursor)) {
                    line++;
                    lineStart = cursor + 1;
                }
            }
        }
    }

    /** All names that were read, by number; a name is a stem and the ' at its end, so that printing can lengthen it. */
    private static final class Names {
        // A run of 512 calls brings at most some 10,000 bytes, and so less than half as many names.
        private static final int MOST = 8192;
        private static final int SLOTS = 16384;
        private static final String SIGNS = "abcdefghijklmnopqrstuvwxyzABCDEFGHIJKLMNOPQRSTUVWXYZ0123456789_'";

        // The signs of the stem by six bits, the first one lowest, and a 1 above the last one.
        final long[] stems = new long[MOST];
        final int[] primes = new int[MOST];
        // Where a name is found by its hash: its number and 1; 0 is free.
        private final int[] slots = new int[SLOTS];
        int count;

        Names() {
            int[] signs = new int[WORDS.length()];
            int from = 0;
            for (int i = 0; i < signs.length; i++) {
                signs[i] = WORDS.charAt(i);
                if (signs[i] == ' ') {
                    numberOf(signs, from, i, true);
                    from = i + 1;
                }
            }
            numberOf(signs, from, signs.length, true);
        }

        /** The number of the name that the units from .. to - 1 are; -1 when they are none, or a new one that may not be added. */
        int numberOf(int[] units, int from, int to, boolean mayAdd) {
            if (from < 0 || to > units.length || from >= to || to - from > NAME_MOST || !isLetter(units[from])) {
                return -1;
            }
            int last = to;
            while (last > from && units[last - 1] == '\'') {
                last--;
            }
            long stem = 1;
            for (int i = last - 1; i >= from; i--) {
                int sign = signOf(units[i]);
                if (sign < 0) {
                    return -1;
                }
                stem = stem << 6 | sign;
            }
            return find(stem, to - last, mayAdd);
        }

        private int find(long stem, int ticks, boolean mayAdd) {
            int hash = (int) (stem * 0x9E3779B97F4A7C15L >>> 40) + 31 * ticks;
            for (int i = 0; i < SLOTS; i++) {
                int slot = hash + i & SLOTS - 1;
                int number = slots[slot] - 1;
                if (number < 0) {
                    if (!mayAdd || count >= MOST) {
                        return -1;
                    }
                    stems[count] = stem;
                    primes[count] = ticks;
                    count++;
                    slots[slot] = count;
                    return count - 1;
                }
                if (stems[number] == stem && primes[number] == ticks) {
                    return number;
                }
            }
            return -1;
        }

        private static int signOf(int u) {
            if (u >= 'a' && u <= 'z') {
                return u - 'a';
            }
            if (u >= 'A' && u <= 'Z') {
                return u - 'A' + 26;
            }
            if (u >= '0' && u <= '9') {
                return u - '0' + 52;
            }
            return u == '_' ? 62 : u == '\'' ? 63 : -1;
        }

        void write(int number, int more, Bytes to) {
            if (number < 0 || number >= count) {
                return;
            }
            for (long stem = stems[number]; stem > 1; stem >>>= 6) {
                to.put(SIGNS.charAt((int) (stem & 63)));
            }
            for (int i = 0; i < primes[number] + more; i++) {
                to.put('\'');
            }
        }
    }

    /** The tokens of a sentence and what they say: its word, its names, and its formula or term as it is written. */
    private static final class Syntax {
        private static final int NO_TOKEN = 0;
        private static final int NAME = 'n';
        private static final int NUMBER = 'd';
        private static final int ARROW = '>';
        private static final int[] CHAIN_SIGNS = {ARROW, '+', '*'};
        private static final int[] CHAIN_NODES = {IMPLIES, OR, AND};
        private static final String ONE_UNIT_SIGNS = "*+~=:,()";
        // Each unit gives one node at most, but for ~, which gives two.
        private static final int NODES_ROOM = 2 * TEXT_MOST;

        private final Names names;
        private final int[] kinds = new int[TEXT_MOST];
        private final int[] values = new int[TEXT_MOST];
        private int tokens;
        private int at;
        int word;
        final int[] told = new int[3];
        private int toldCount;
        int terms;
        final int[] nodes = new int[NODES_ROOM];
        int nodeCount;

        Syntax(Names names) {
            this.names = names;
        }

        /** Parts the units from .. to - 1 into tokens: how many there are, units that are in none among them. */
        int scan(int[] text, int from, int to) {
            tokens = 0;
            int stop = Math.min(to, text.length);
            int i = Math.max(from, 0);
            while (i < stop) {
                int next = i + 1;
                if (opensComment(text, i, stop)) {
                    next = commentEnd(text, i, stop);
                } else if (isLetter(text[i])) {
                    next = scanName(text, i, stop);
                } else if (text[i] == '-' && i + 1 < stop && text[i + 1] == '>') {
                    add(ARROW, 0);
                    next = i + 2;
                } else if (isDigit(text[i])) {
                    add(NUMBER, text[i] - '0');
                } else if (!isBlank(text[i])) {
                    boolean isSign = text[i] == '.' && next == stop || text[i] < 128 && ONE_UNIT_SIGNS.indexOf((char) text[i]) >= 0;
                    add(isSign ? text[i] : NO_TOKEN, 0);
                }
                i = Math.max(i + 1, next);
            }
            return tokens;
        }

        private int scanName(int[] text, int from, int stop) {
            int end = from + 1;
            while (end < stop && Names.signOf(text[end]) >= 0) {
                end++;
            }
            if (end - from <= NAME_MOST) {
                int number = names.numberOf(text, from, end, true);
                add(number < 0 ? NO_TOKEN : NAME, number);
            } else {
                for (int i = from; i < end; i++) {
                    add(NO_TOKEN, 0);
                }
            }
            return end;
        }

        private void add(int kind, int value) {
            if (tokens < TEXT_MOST) {
                kinds[tokens] = kind;
                values[tokens] = value;
                tokens++;
            }
        }

        /** Reads the tokens as a sentence: false when they are none. */
        boolean isSentence() {
            at = 1;
            toldCount = 0;
            nodeCount = 0;
            terms = 0;
            word = tokens > 0 && kinds[0] == NAME ? values[0] : -1;
            boolean isRead;
            switch (word) {
                case WORD_FUNCTION: case WORD_PREDICATE:
                    isRead = isName() && isArity();
                    break;
                case WORD_AXIOM: case WORD_LEMMA: case WORD_HAVE:
                    isRead = isName() && isSign(':') && isChain(0, 0);
                    break;
                case WORD_QED: case WORD_ABORT: case WORD_SPLIT: case WORD_LEFT: case WORD_RIGHT: case WORD_SAME:
                    isRead = true;
                    break;
                case WORD_INTRO: case WORD_EXACT: case WORD_APPLY: case WORD_ABSURD: case WORD_REWRITE:
                    isRead = isName();
                    break;
                case WORD_CASES:
                    isRead = isName() && isName() && isName();
                    break;
                case WORD_GIVE:
                    isRead = isTerm(FUNCTION, 0);
                    break;
                case WORD_USE:
                    isRead = isName() && isTerm(FUNCTION, 0) && isName();
                    break;
                default:
                    isRead = false;
            }
            return isRead && at == tokens - 1 && peek() == '.';
        }

        private int peek() {
            return at < tokens && at < TEXT_MOST ? kinds[at] : NO_TOKEN;
        }

        private int peekName() {
            return peek() == NAME ? values[at] : -1;
        }

        private boolean isSign(int sign) {
            boolean isThere = at < tokens && at < TEXT_MOST && kinds[at] == sign;
            at++;
            return isThere;
        }

        private boolean isName() {
            int name = peekName();
            at++;
            if (name <= WORD_FALSE || toldCount >= told.length) {
                return false;
            }
            told[toldCount] = name;
            toldCount++;
            return true;
        }

        private boolean isArity() {
            terms = peek() == NUMBER ? values[at] : -1;
            at++;
            return terms >= 0 && terms <= ARITY_MOST;
        }

        private boolean addNode(int node) {
            if (nodeCount >= NODES_ROOM) {
                return false;
            }
            nodes[nodeCount] = node;
            nodeCount++;
            return true;
        }

        private boolean insertNode(int place, int node) {
            if (place < 0 || place > nodeCount || nodeCount >= NODES_ROOM) {
                return false;
            }
            for (int i = nodeCount; i > place; i--) {
                nodes[i] = nodes[i - 1];
            }
            nodes[place] = node;
            nodeCount++;
            return true;
        }

        /** Reads what -> (strength 0), + (1) or * (2) join, a chain of them in one loop; its sign comes ahead of its left side. */
        private boolean isChain(int strength, int depth) {
            for (int i = 0; i < TEXT_MOST && strength < CHAIN_SIGNS.length; i++) {
                int start = nodeCount;
                boolean isSide = strength == CHAIN_SIGNS.length - 1 ? isOne(depth) : isChain(strength + 1, depth);
                if (!isSide) {
                    return false;
                }
                if (peek() != CHAIN_SIGNS[strength]) {
                    return true;
                }
                at++;
                if (!insertNode(start, CHAIN_NODES[strength])) {
                    return false;
                }
            }
            return false;
        }

        private boolean isOne(int depth) {
            int sign = peek();
            int name = peekName();
            if (sign == '~') {
                at++;
                return depth < NESTING_MOST && addNode(IMPLIES) && isOne(depth + 1) && addNode(FALSE);
            }
            if (sign == '(') {
                at++;
                return depth < NESTING_MOST && isChain(0, depth + 1) && isSign(')');
            }
            if (name == WORD_FORALL || name == WORD_EXISTS) {
                at++;
                int bound = peekName();
                int node = (name == WORD_FORALL ? FORALL : EXISTS) | bound << NAME_SHIFT;
                at++;
                return depth < NESTING_MOST && bound > WORD_FALSE && isSign(',') && addNode(node) && isChain(0, depth + 1);
            }
            if (name == WORD_FALSE) {
                at++;
                return addNode(FALSE);
            }
            int start = nodeCount;
            if (!isTerm(PREDICATE, depth)) {
                return false;
            }
            if (peek() != '=') {
                return true;
            }
            at++;
            nodes[start] += FUNCTION - PREDICATE;
            return insertNode(start, EQUALS) && isTerm(FUNCTION, depth);
        }

        private boolean isTerm(int kind, int depth) {
            int start = nodeCount;
            int name = peekName();
            at++;
            if (name <= WORD_FALSE || !addNode(kind | name << NAME_SHIFT)) {
                return false;
            }
            if (peek() != '(') {
                return true;
            }
            if (depth >= NESTING_MOST) {
                return false;
            }
            for (int count = 1; count <= TERMS_MASK; count++) {
                at++;
                if (!isTerm(FUNCTION, depth + 1)) {
                    return false;
                }
                if (peek() != ',') {
                    nodes[start] |= count << TERMS_SHIFT;
                    return isSign(')');
                }
            }
            return false;
        }
    }

    /** What is to be shown: variables, hypotheses, and a formula. It is never changed, so that states share it. */
    private static final class Goal {
        final int[] variables;
        final int[] names;
        final int[][] hypotheses;
        final int[] formula;

        Goal(int[] variables, int[] names, int[][] hypotheses, int[] formula) {
            this.variables = variables;
            this.names = names;
            this.hypotheses = hypotheses;
            this.formula = formula;
        }

        Goal withFormula(int[] shown) {
            return new Goal(variables, names, hypotheses, shown);
        }

        Goal withVariable(int name, int[] shown) {
            return new Goal(State.longer(variables, name), names, hypotheses, shown);
        }

        Goal withHypothesis(int name, int[] hypothesis, int[] shown) {
            return new Goal(variables, State.longer(names, name), State.longer(hypotheses, hypothesis), shown);
        }

        Goal without(int number) {
            int size = Math.max(names.length - 1, 0);
            int[] fewerNames = new int[size];
            int[][] fewer = new int[size][];
            for (int i = 0; i < size; i++) {
                int from = i < number ? i : i + 1;
                fewerNames[i] = names[from];
                fewer[i] = hypotheses[from];
            }
            return new Goal(variables, fewerNames, fewer, formula);
        }

        /** Whether it keeps within the numbers told; what would have been too large a formula is null. */
        boolean fits() {
            int last = hypotheses.length - 1;
            return formula != null && variables.length <= VARIABLES_MOST && hypotheses.length <= HYPOTHESES_MOST
                    && (last < 0 || hypotheses[last] != null);
        }
    }

    /** The state behind a row of sentences, told by the last one and the state ahead of it, with that sentence's fault. */
    private static final class State {
        final State ahead;
        final int[] units;
        int fault;
        // Each as the node with which it is used.
        int[] symbols = new int[0];
        int[] factNames = new int[0];
        int[][] facts = new int[0][];
        int lemma = -1;
        int[] statement = new int[0];
        Goal[] goals = new Goal[0];

        State() {
            ahead = null;
            units = new int[0];
        }

        State(State ahead, int[] units) {
            this.ahead = ahead;
            this.units = units;
            symbols = ahead.symbols;
            factNames = ahead.factNames;
            facts = ahead.facts;
            lemma = ahead.lemma;
            statement = ahead.statement;
            goals = ahead.goals;
        }

        static boolean isSameRow(State one, State other) {
            State a = one;
            State b = other;
            for (int i = 0; i <= SENTENCES_MOST + 1; i++) {
                if (a == b) {
                    return true;
                }
                if (a == null || b == null || a.units.length != b.units.length) {
                    return false;
                }
                for (int u = 0; u < a.units.length; u++) {
                    if (a.units[u] != b.units[u]) {
                        return false;
                    }
                }
                a = a.ahead;
                b = b.ahead;
            }
            return false;
        }

        static int find(int[] row, int wanted) {
            for (int i = 0; i < row.length; i++) {
                if (row[i] == wanted) {
                    return i;
                }
            }
            return -1;
        }

        static int[] longer(int[] row, int last) {
            int[] copy = Arrays.copyOf(row, row.length + 1);
            copy[row.length] = last;
            return copy;
        }

        static int[][] longer(int[][] rows, int[] last) {
            int[][] copy = new int[rows.length + 1][];
            for (int i = 0; i < rows.length; i++) {
                copy[i] = rows[i];
            }
            copy[rows.length] = last;
            return copy;
        }

        /** The symbol of that name; -1 when there is none. */
        int symbolOf(int name) {
            for (int i = 0; i < symbols.length; i++) {
                if (symbols[i] >> NAME_SHIFT == name) {
                    return symbols[i];
                }
            }
            return -1;
        }

        void addFact(int name, int[] formula) {
            factNames = longer(factNames, name);
            facts = longer(facts, formula);
        }

        void endProof() {
            lemma = -1;
            statement = new int[0];
            goals = new Goal[0];
        }
    }

    /** Checks a sentence in a state. */
    private static final class Kernel {
        final Names names = new Names();
        final Syntax syntax = new Syntax(names);
        final State start = new State();
        private final int[] scopeNames = new int[NESTING_MOST + 1];
        private final int[] scopeEnds = new int[NESTING_MOST + 1];
        // The terms that come for bound names, by level, as parts of one row; of size 0 while they are not told.
        private int[] source = new int[1];
        private final int[] termFrom = new int[NESTING_MOST + 1];
        private final int[] termSize = new int[NESTING_MOST + 1];
        private final int[] single = new int[1];
        // The goals that come instead of the first one.
        private final Goal[] fresh = new Goal[GOALS_MOST];
        private int freshCount;

        /** The state behind a sentence; a fault that was seen before is its fault. */
        State check(State ahead, int[] units, int early) {
            State next = new State(ahead, units);
            next.fault = early;
            if (early > 0) {
                return next;
            }
            syntax.scan(units, 0, units.length);
            boolean isRead = syntax.isSentence();
            boolean isForProofs = syntax.word > WORD_LEMMA;
            boolean isInProof = next.lemma >= 0;
            if (!isRead) {
                next.fault = SYNTAX;
            } else if (isForProofs != isInProof) {
                next.fault = NOT_HERE;
            } else if (syntax.word <= WORD_PREDICATE) {
                next.fault = declare(next);
            } else if (syntax.word <= WORD_LEMMA) {
                next.fault = propose(next);
            } else if (syntax.word <= WORD_ABORT) {
                next.fault = leaveProof(next);
            } else {
                next.fault = tactic(next);
            }
            return next;
        }

        private int declare(State s) {
            int name = syntax.told[0];
            if (isTaken(s, null, name)) {
                return TAKEN;
            }
            if (s.symbols.length >= SYMBOLS_MOST) {
                return TOO_LARGE;
            }
            int kind = syntax.word == WORD_FUNCTION ? FUNCTION : PREDICATE;
            s.symbols = State.longer(s.symbols, kind | syntax.terms << TERMS_SHIFT | name << NAME_SHIFT);
            return 0;
        }

        private int propose(State s) {
            int name = syntax.told[0];
            if (isTaken(s, null, name)) {
                return TAKEN;
            }
            if (!isResolved(s, null)) {
                return UNKNOWN;
            }
            boolean isAxiom = syntax.word == WORD_AXIOM;
            if (syntax.nodeCount > NODES_MOST || isAxiom && s.facts.length >= FACTS_MOST) {
                return TOO_LARGE;
            }
            int[] formula = Arrays.copyOf(syntax.nodes, syntax.nodeCount);
            if (isAxiom) {
                s.addFact(name, formula);
            } else {
                s.lemma = name;
                s.statement = formula;
                s.goals = new Goal[] {new Goal(new int[0], new int[0], new int[0][], formula)};
            }
            return 0;
        }

        private int leaveProof(State s) {
            if (syntax.word == WORD_QED) {
                if (s.goals.length > 0) {
                    return OPEN_GOALS;
                }
                if (s.facts.length >= FACTS_MOST) {
                    return TOO_LARGE;
                }
                s.addFact(s.lemma, s.statement);
            }
            s.endProof();
            return 0;
        }

        private int tactic(State s) {
            Goal goal = s.goals.length > 0 ? s.goals[0] : null;
            int fault = nameFault(s, goal);
            if (fault > 0) {
                return fault;
            }
            if (goal == null) {
                return NO_MATCH;
            }
            freshCount = 0;
            fault = act(goal, named(s, goal, syntax.told[0]));
            return fault > 0 ? fault : putFresh(s);
        }

        // ---- names

        /** The first fault of the names, as they come from the left; 0 without one. */
        private int nameFault(State s, Goal goal) {
            int first = syntax.told[0];
            int second = syntax.told[1];
            switch (syntax.word) {
                case WORD_INTRO:
                    return isTaken(s, goal, first) ? TAKEN : 0;
                case WORD_EXACT: case WORD_APPLY: case WORD_ABSURD: case WORD_REWRITE:
                    return named(s, goal, first) == null ? UNKNOWN : 0;
                case WORD_CASES:
                    if (goal == null || State.find(goal.names, first) < 0) {
                        return UNKNOWN;
                    }
                    boolean isTaken = isTaken(s, goal, second) || isTaken(s, goal, syntax.told[2]);
                    return isTaken || second == syntax.told[2] ? TAKEN : 0;
                case WORD_GIVE:
                    return isResolved(s, goal) ? 0 : UNKNOWN;
                case WORD_USE:
                    if (named(s, goal, first) == null || !isResolved(s, goal)) {
                        return UNKNOWN;
                    }
                    return isTaken(s, goal, second) ? TAKEN : 0;
                case WORD_HAVE:
                    if (isTaken(s, goal, first)) {
                        return TAKEN;
                    }
                    return isResolved(s, goal) ? 0 : UNKNOWN;
                default:
                    return 0;
            }
        }

        private static boolean isTaken(State s, Goal goal, int name) {
            return s.symbolOf(name) >= 0 || State.find(s.factNames, name) >= 0
                    || goal != null && (State.find(goal.variables, name) >= 0 || State.find(goal.names, name) >= 0);
        }

        /** The formula of the hypothesis, else of the fact, of that name; null when there is none. */
        private static int[] named(State s, Goal goal, int name) {
            int hypothesis = goal == null ? -1 : State.find(goal.names, name);
            if (goal != null && hypothesis >= 0) {
                return goal.hypotheses[hypothesis];
            }
            int fact = State.find(s.factNames, name);
            return fact < 0 ? null : s.facts[fact];
        }

        /** Tells what the names of the formula or term that was read are: false when one is unknown. */
        private boolean isResolved(State s, Goal goal) {
            int[] nodes = syntax.nodes;
            int depth = 0;
            for (int i = 0; i < syntax.nodeCount && i < nodes.length; i++) {
                while (depth > 0 && scopeEnds[depth - 1] <= i) {
                    depth--;
                }
                int kind = nodes[i] & KIND;
                if (kind == FORALL || kind == EXISTS) {
                    if (depth >= scopeNames.length) {
                        return false;
                    }
                    scopeNames[depth] = nodes[i] >> NAME_SHIFT;
                    scopeEnds[depth] = endOf(nodes, i, syntax.nodeCount);
                    depth++;
                } else if (kind == PREDICATE && State.find(s.symbols, nodes[i]) < 0) {
                    return false;
                } else if (kind == FUNCTION) {
                    nodes[i] = resolved(s, goal, nodes[i], depth);
                    if (nodes[i] < 0) {
                        return false;
                    }
                }
            }
            return true;
        }

        private int resolved(State s, Goal goal, int node, int depth) {
            int name = node >> NAME_SHIFT;
            boolean isAlone = (node >> TERMS_SHIFT & TERMS_MASK) == 0;
            for (int level = depth - 1; level >= 0; level--) {
                if (scopeNames[level] == name) {
                    return isAlone ? BOUND | level << NAME_SHIFT : -1;
                }
            }
            if (goal != null && State.find(goal.variables, name) >= 0) {
                return isAlone ? VARIABLE | name << NAME_SHIFT : -1;
            }
            return State.find(s.symbols, node) >= 0 ? node : -1;
        }

        // ---- tactics

        private int act(Goal goal, int[] rule) {
            int[] shown = goal.formula;
            int kind = shown.length > 0 ? shown[0] & KIND : FALSE;
            int middle = endOf(shown, 1, shown.length);
            switch (syntax.word) {
                case WORD_INTRO:
                    return intro(goal, kind, middle);
                case WORD_EXACT:
                    return rule != null && areSame(rule, shown) ? 0 : NO_MATCH;
                case WORD_APPLY:
                    int premises = rule == null ? -1 : premisesFor(rule, shown);
                    return premises < 0 ? NO_MATCH : addPremises(goal, rule, premises);
                case WORD_SPLIT:
                    int fault = addSide(goal, kind == AND, 1, middle);
                    return fault > 0 ? fault : addSide(goal, true, middle, shown.length);
                case WORD_LEFT:
                    return addSide(goal, kind == OR, 1, middle);
                case WORD_RIGHT:
                    return addSide(goal, kind == OR, middle, shown.length);
                case WORD_CASES:
                    return cases(goal);
                case WORD_ABSURD:
                    return rule != null && rule.length == 1 && (rule[0] & KIND) == FALSE ? 0 : NO_MATCH;
                case WORD_GIVE:
                    return kind == EXISTS ? add(goal.withFormula(opened(shown, syntax.nodes, syntax.nodeCount))) : NO_MATCH;
                case WORD_USE:
                    return use(goal, rule);
                case WORD_SAME:
                    boolean isSame = kind == EQUALS && middle - 1 == shown.length - middle;
                    return isSame && standsAt(shown, 1, shown, middle, shown.length - middle) ? 0 : NO_MATCH;
                case WORD_REWRITE:
                    return rule != null ? rewrite(goal, rule) : NO_MATCH;
                default:
                    return have(goal);
            }
        }

        private int intro(Goal goal, int kind, int middle) {
            int name = syntax.told[0];
            int[] shown = goal.formula;
            if (kind == IMPLIES) {
                return add(goal.withHypothesis(name, part(shown, 1, middle), part(shown, middle, shown.length)));
            }
            return kind == FORALL ? add(goal.withVariable(name, opened(shown, variable(name), 1))) : NO_MATCH;
        }

        private int addSide(Goal goal, boolean hasSides, int from, int to) {
            return hasSides ? add(goal.withFormula(part(goal.formula, from, to))) : NO_MATCH;
        }

        private static int leadingBound(int[] rule) {
            int bound = 0;
            while (bound < rule.length && bound < NESTING_MOST && (rule[bound] & KIND) == FORALL) {
                bound++;
            }
            return bound;
        }

        /** The least number of left sides of a rule behind which it is the formula; -1 when there is none. */
        private int premisesFor(int[] rule, int[] formula) {
            int bound = leadingBound(rule);
            int at = bound;
            for (int count = 0; count < NODES_MOST && at < rule.length; count++) {
                if (matches(rule, at, bound, formula)) {
                    return count;
                }
                if ((rule[at] & KIND) != IMPLIES) {
                    return -1;
                }
                at = endOf(rule, at + 1, rule.length);
            }
            return -1;
        }

        /** The goals of the first left sides of a rule, with the terms that were told. */
        private int addPremises(Goal goal, int[] rule, int count) {
            if (count > GOALS_MOST) {
                return TOO_LARGE;
            }
            int bound = leadingBound(rule);
            int at = bound;
            for (int i = 0; i < count; i++) {
                int end = endOf(rule, at + 1, rule.length);
                add(goal.withFormula(instance(rule, at + 1, end, bound)));
                at = end;
            }
            return 0;
        }

        private int cases(Goal goal) {
            int number = State.find(goal.names, syntax.told[0]);
            if (number < 0) {
                return UNKNOWN;
            }
            int first = syntax.told[1];
            int second = syntax.told[2];
            int[] known = goal.hypotheses[number];
            int kind = known.length > 0 ? known[0] & KIND : FALSE;
            int middle = endOf(known, 1, known.length);
            int[] left = part(known, 1, middle);
            int[] right = part(known, middle, known.length);
            Goal rest = goal.without(number);
            if (kind == AND) {
                return add(rest.withHypothesis(first, left, goal.formula).withHypothesis(second, right, goal.formula));
            }
            if (kind == OR) {
                add(rest.withHypothesis(first, left, goal.formula));
                return add(rest.withHypothesis(second, right, goal.formula));
            }
            if (kind != EXISTS) {
                return NO_MATCH;
            }
            return add(rest.withVariable(first, goal.formula).withHypothesis(second, opened(known, variable(first), 1), goal.formula));
        }

        private int use(Goal goal, int[] rule) {
            if (rule == null || rule.length == 0 || (rule[0] & KIND) != FORALL) {
                return NO_MATCH;
            }
            return add(goal.withHypothesis(syntax.told[1], opened(rule, syntax.nodes, syntax.nodeCount), goal.formula));
        }

        private int have(Goal goal) {
            if (syntax.nodeCount > NODES_MOST) {
                return TOO_LARGE;
            }
            int[] formula = Arrays.copyOf(syntax.nodes, syntax.nodeCount);
            add(goal.withFormula(formula));
            return add(goal.withHypothesis(syntax.told[0], formula, goal.formula));
        }

        private int rewrite(Goal goal, int[] rule) {
            if (rule.length == 0 || (rule[0] & KIND) != EQUALS) {
                return NO_MATCH;
            }
            int[] shown = goal.formula;
            int middle = endOf(rule, 1, rule.length);
            int was = Math.max(middle - 1, 1);
            int becomes = rule.length - middle;
            int count = 0;
            for (int i = 0; i < shown.length; i++) {
                if (standsAt(shown, i, rule, 1, was)) {
                    count++;
                    i += was - 1;
                }
            }
            int size = shown.length + count * (becomes - was);
            if (count == 0 || size > NODES_MOST || size < 1) {
                return count == 0 ? NO_MATCH : TOO_LARGE;
            }
            int[] result = new int[size];
            int at = 0;
            for (int i = 0; i < shown.length && at < size; i++) {
                if (standsAt(shown, i, rule, 1, was)) {
                    System.arraycopy(rule, middle, result, at, becomes);
                    at += becomes;
                    i += was - 1;
                } else {
                    result[at] = shown[i];
                    at++;
                }
            }
            return add(goal.withFormula(result));
        }

        private int add(Goal goal) {
            if (freshCount < GOALS_MOST) {
                fresh[freshCount] = goal;
            }
            freshCount++;
            return 0;
        }

        /** Puts the new goals for the first one, if all keeps within the numbers told. */
        private int putFresh(State s) {
            int size = freshCount + s.goals.length - 1;
            if (size < 0 || size > GOALS_MOST) {
                return TOO_LARGE;
            }
            Goal[] goals = new Goal[size];
            for (int i = 0; i < size; i++) {
                goals[i] = i < freshCount ? fresh[i] : s.goals[i - freshCount + 1];
                if (!goals[i].fits()) {
                    return TOO_LARGE;
                }
            }
            s.goals = goals;
            return 0;
        }

        // ---- formulas

        private static int[] part(int[] nodes, int from, int to) {
            return from < 0 || to < from || to > nodes.length ? new int[0] : Arrays.copyOfRange(nodes, from, to);
        }

        private static boolean areAlike(int node, int other) {
            int kind = node & KIND;
            return node == other || (kind == FORALL || kind == EXISTS) && kind == (other & KIND);
        }

        private static boolean areSame(int[] formula, int[] other) {
            if (formula.length != other.length) {
                return false;
            }
            for (int i = 0; i < formula.length; i++) {
                if (!areAlike(formula[i], other[i])) {
                    return false;
                }
            }
            return true;
        }

        private static boolean standsAt(int[] nodes, int at, int[] term, int from, int size) {
            if (at < 0 || from < 0 || at + size > nodes.length || from + size > term.length) {
                return false;
            }
            for (int i = 0; i < size; i++) {
                if (nodes[at + i] != term[from + i]) {
                    return false;
                }
            }
            return true;
        }

        /** Whether the rule from a place on, with terms for its first bound names, is the formula, which tells all of them. */
        private boolean matches(int[] rule, int from, int bound, int[] formula) {
            Arrays.fill(termSize, 0);
            source = formula;
            int at = 0;
            for (int i = from; i < rule.length; i++) {
                if (at >= formula.length) {
                    return false;
                }
                int node = rule[i];
                boolean isBound = (node & KIND) == BOUND;
                if (isBound && node >> NAME_SHIFT < bound) {
                    int end = endOf(formula, at, formula.length);
                    if (!tells(node >> NAME_SHIFT, at, end)) {
                        return false;
                    }
                    at = end;
                } else {
                    if (!areAlike(isBound ? node - (bound << NAME_SHIFT) : node, formula[at])) {
                        return false;
                    }
                    at++;
                }
            }
            boolean areAllTold = true;
            for (int level = 0; level < bound; level++) {
                areAllTold = areAllTold && termSize[level] > 0;
            }
            return areAllTold && at == formula.length;
        }

        /** Whether the formula's nodes from .. to - 1 can come for the bound name of a level. */
        private boolean tells(int level, int from, int to) {
            boolean isNew = termSize[level] == 0;
            boolean fits = isNew || termSize[level] == to - from;
            for (int i = from; i < to && fits; i++) {
                fits = isNew ? (source[i] & KIND) != BOUND : source[i] == source[termFrom[level] + i - from];
            }
            if (fits && isNew) {
                termFrom[level] = from;
                termSize[level] = to - from;
            }
            return fits;
        }

        /** What a quantifier binds with a term for its name; null when that is too large. */
        private int[] opened(int[] quantified, int[] term, int size) {
            source = term;
            termFrom[0] = 0;
            termSize[0] = Math.min(size, term.length);
            return instance(quantified, 1, quantified.length, 1);
        }

        private int[] variable(int name) {
            single[0] = VARIABLE | name << NAME_SHIFT;
            return single;
        }

        /** The nodes from .. to - 1 with the terms told for the first bound names; null when that is too large. */
        private int[] instance(int[] nodes, int from, int to, int bound) {
            int size = 0;
            for (int i = from; i < to && i < nodes.length; i++) {
                boolean isTold = (nodes[i] & KIND) == BOUND && nodes[i] >> NAME_SHIFT < bound;
                size += isTold ? termSize[nodes[i] >> NAME_SHIFT] : 1;
            }
            if (size > NODES_MOST) {
                return null;
            }
            int[] result = new int[size];
            int at = 0;
            for (int i = from; i < to && i < nodes.length && at < size; i++) {
                int level = (nodes[i] & KIND) == BOUND ? nodes[i] >> NAME_SHIFT : -1;
                if (level >= 0 && level < bound) {
                    System.arraycopy(source, termFrom[level], result, at, termSize[level]);
                    at += termSize[level];
                } else {
                    result[at] = level < 0 ? nodes[i] : nodes[i] - (bound << NAME_SHIFT);
                    at++;
                }
            }
            return result;
        }
    }

    /** Prints formulas and answers; what is still to be printed waits on a stack, the next one on top. */
    private static final class Printer {
        // An item is a sign, a name (with more ' behind it), or a node: with its level, whether it stands
        // at the right end of all or of what ( ) hold, and whether it is to be held in ( ).
        private static final int TYPE = 3;
        private static final int SIGN = 0;
        private static final int NAME = 1;
        private static final int NODE = 2;
        private static final int ITEM_SHIFT = 2;
        private static final int MORE_SHIFT = 17;
        private static final int NODE_MASK = 255;
        private static final int RIGHT_END = 256;
        private static final int HELD = 512;
        private static final int LEVEL_SHIFT = 10;
        // Signs beside those that are told by the kind of their node.
        private static final int CLOSING = 16;
        private static final int OPENING = 17;
        private static final int COMMA = 18;
        // Each node makes eight items at most.
        private static final int ITEMS_MOST = 10 * NODES_MOST;

        private final Names names;
        private final int[] stack = new int[ITEMS_MOST];
        private int height;
        // The quantifiers around, by level: the name of each, and how many ' it is written with behind it.
        private final int[] boundNames = new int[NESTING_MOST + 1];
        private final int[] boundMore = new int[NESTING_MOST + 1];

        Printer(Names names) {
            this.names = names;
        }

        /** What proof/goals answers of a state. */
        void proof(State s, Bytes to) {
            if (s.lemma < 0) {
                to.text("null");
                return;
            }
            to.text("{\"proof\":\"");
            names.write(s.lemma, 0, to);
            to.text("\",\"goals\":[");
            for (int g = 0; g < s.goals.length; g++) {
                Goal goal = s.goals[g];
                to.text(g > 0 ? ",\"" : "\"");
                for (int i = 0; i < goal.variables.length; i++) {
                    names.write(goal.variables[i], 0, to);
                    to.put(' ');
                }
                for (int i = 0; i < goal.names.length && i < goal.hypotheses.length; i++) {
                    names.write(goal.names[i], 0, to);
                    to.text(" : ");
                    formula(goal.hypotheses[i], to);
                    to.text(", ");
                }
                to.text("|- ");
                formula(goal.formula, to);
                to.put('"');
            }
            to.text("]}");
        }

        /** What proof/statement answers of a name in a state. */
        void statement(State s, int name, Bytes to) {
            int fact = State.find(s.factNames, name);
            int symbol = s.symbolOf(name);
            if (fact >= 0) {
                to.put('"');
                formula(s.facts[fact], to);
                to.put('"');
            } else if (symbol >= 0) {
                to.number(symbol >> TERMS_SHIFT & TERMS_MASK);
            } else {
                to.text("null");
            }
        }

        private void formula(int[] formula, Bytes to) {
            height = 0;
            push(NODE, RIGHT_END);
            for (int i = 0; i < ITEMS_MOST && height > 0; i++) {
                height--;
                int type = stack[height] & TYPE;
                int item = stack[height] >> ITEM_SHIFT;
                int node = item & NODE_MASK;
                int kind = type == NODE && node < formula.length ? formula[node] & KIND : FALSE;
                boolean isQuantified = kind == FORALL || kind == EXISTS;
                if (type == SIGN) {
                    to.text(signText(item));
                } else if (type == NAME) {
                    names.write(item & (1 << MORE_SHIFT) - 1, item >> MORE_SHIFT, to);
                } else if ((item & HELD) != 0 || isQuantified && (item & RIGHT_END) == 0) {
                    push(SIGN, CLOSING);
                    push(NODE, item & ~HELD | RIGHT_END);
                    push(SIGN, OPENING);
                } else if (isQuantified) {
                    pushQuantified(formula, node, item >> LEVEL_SHIFT);
                } else if (kind >= IMPLIES && kind <= EQUALS) {
                    pushJoined(formula, node, item - node);
                } else if (kind == FALSE) {
                    push(SIGN, FALSE);
                } else {
                    pushTerm(formula, node);
                }
            }
        }

        private static String signText(int sign) {
            switch (sign) {
                case IMPLIES: return " -> ";
                case AND: return " * ";
                case OR: return " + ";
                case EQUALS: return " = ";
                case FORALL: return "forall ";
                case EXISTS: return "exists ";
                case CLOSING: return ")";
                case OPENING: return "(";
                case COMMA: return ", ";
                default: return "False";
            }
        }

        private void push(int type, int item) {
            if (height < stack.length) {
                stack[height] = item << ITEM_SHIFT | type;
                height++;
            }
        }

        private void pushJoined(int[] formula, int node, int flags) {
            int left = node + 1;
            int right = endOf(formula, left, formula.length);
            if (right >= formula.length) {
                return;
            }
            int kind = formula[node] & KIND;
            int leftKind = formula[left] & KIND;
            int rightKind = formula[right] & KIND;
            boolean isLeftHeld = leftKind == IMPLIES || leftKind == OR && kind != IMPLIES || leftKind == AND && kind == AND;
            boolean isRightHeld = rightKind == IMPLIES && kind != IMPLIES || rightKind == OR && kind == AND;
            push(NODE, right | flags | (isRightHeld ? HELD : 0));
            push(SIGN, kind);
            push(NODE, left | flags & ~RIGHT_END | (isLeftHeld ? HELD : 0));
        }

        private void pushQuantified(int[] formula, int node, int level) {
            if (level >= boundNames.length) {
                return;
            }
            int end = endOf(formula, node, formula.length);
            boundNames[level] = formula[node] >> NAME_SHIFT;
            boundMore[level] = 0;
            for (int i = 0; i < 2 * NODES_MOST && isWrittenIn(formula, node + 1, end, level); i++) {
                boundMore[level]++;
            }
            push(NODE, node + 1 | RIGHT_END | level + 1 << LEVEL_SHIFT);
            push(SIGN, COMMA);
            push(NAME, boundNames[level] | boundMore[level] << MORE_SHIFT);
            push(SIGN, formula[node] & KIND);
        }

        /** Whether something else in the nodes from .. to - 1 is written as the bound name of the level is now. */
        private boolean isWrittenIn(int[] formula, int from, int to, int level) {
            int own = boundNames[level];
            for (int i = from; i < to && i < formula.length && own < names.count; i++) {
                int kind = formula[i] & KIND;
                int name = formula[i] >> NAME_SHIFT;
                int more = 0;
                boolean isName = kind == PREDICATE || kind == FUNCTION || kind == VARIABLE;
                if (kind == BOUND && name < level) {
                    isName = true;
                    more = boundMore[name];
                    name = boundNames[name];
                }
                if (isName && name < names.count && names.stems[name] == names.stems[own]
                        && names.primes[name] + more == names.primes[own] + boundMore[level]) {
                    return true;
                }
            }
            return false;
        }

        private void pushTerm(int[] formula, int node) {
            int name = formula[node] >> NAME_SHIFT;
            if ((formula[node] & KIND) == BOUND) {
                if (name < boundNames.length) {
                    push(NAME, boundNames[name] | boundMore[name] << MORE_SHIFT);
                }
                return;
            }
            int count = formula[node] >> TERMS_SHIFT & TERMS_MASK;
            if (count > 0) {
                push(SIGN, CLOSING);
            }
            // The last term goes on the stack first, but a row tells only where the next one begins.
            for (int i = count; i > 0; i--) {
                int at = node + 1;
                for (int passed = 1; passed < i; passed++) {
                    at = endOf(formula, at, formula.length);
                }
                push(NODE, at);
                push(SIGN, i > 1 ? COMMA : OPENING);
            }
            push(NAME, name);
        }
    }
}
