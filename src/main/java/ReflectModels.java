/**
 * Reflective acts in one modelled machine: classes with fields and methods, handles
 * to them, and what comes of using these. DOC.md says what each call answers.
 */
public final class ReflectModels {
    public static final int NONE = -1, UNKNOWN = -2, OUTSIDE = -3, STATE = -4, FULL = -5;

    private static final int MAX_CLASSES = 16, MAX_MEMBERS = 40, MAX_HANDLES = 60;
    private static final int MAX_MADE = 60, MAX_VALUES = 3, MAX_CONSTANTS = 4;
    private static final int MAX_NAME = 19, MAX_TYPES = 2, MAX_OWN_NUMBER = 99;

    private static final int ROOT = 0;
    private static final int PLAIN = 0, ABSTRACT = 1, FACE = 2, RECORD = 3, ENUMERATION = 4;
    private static final int NOT_STARTED = 0, STARTED = 1, FAILED = 2;

    /** TYPES below the classes. */
    private static final int INT = -1, LONG = -2, VOID = -3;
    private static final int AS_IT_IS = 0;

    /** Kinds of VALUES. */
    private static final int NOTHING = 0, AN_INT = 1, A_LONG = 2, AN_OBJECT = 3;

    private static final int MARK_STATIC = 1, MARK_ABSTRACT = 2, MARK_HIDDEN = 4, ALL_MARKS = 7;

    private static final int GIVES_NUMBER = 0, DIVIDES = 1, CASTS = 2, READS_FIELD = 3;
    private static final int PICKS_ITEM = 4, FAILS = 5, GIVES_RECEIVER = 6, STORES = 7;
    private static final int ROW_LENGTH = 3;

    private static final int NO_HANDLER = -1;
    private static final int COUNTS = 0, ANSWERS_NOTHING = 1, REFUSES = 2, ECHOES = 3;
    private static final int REFUSER_NUMBER = 7;

    /** FAILURES; 0 stands for none. */
    private static final int NO_MEMBER = 1, NO_LEAVE = 2, UNLIKE = 3, NO_RECEIVER = 4;
    private static final int IS_ABSTRACT = 5, WRAPPED = 6, IS_FINAL = 7;
    private static final int START_FAILED = 8, NO_DEFINITION = 9;
    private static final int FAILURE_BASE = -10;

    /** CAUSES; 0 stands for none. */
    private static final int BY_ZERO = 1, BAD_CAST = 2, NULL_USED = 3, BAD_INDEX = 4;
    private static final int BAD_STORE = 5, NO_BODY = 6, OWN_CAUSE = 100;

    /** A class of the modelled machine. */
    private static final class ClassModel {
        private final int number;
        private final ClassModel above;
        private final int sort;
        private final ClassModel face;
        private final boolean shut;
        private final boolean fails;
        /** It and those ABOVE it, a bit each: a class never gets others ABOVE it, so this is told once. */
        private final int line;
        /** What its OBJECTS are OF: the line, and the lines of the FACES that those in it ACT as. */
        private final int all;
        private int state = NOT_STARTED;
        private int constantCount = 0;
        private int firstConstant = 0;
        private int ownMembers = 0;

        private ClassModel(int number, ClassModel above, int sort, ClassModel face, boolean shut, boolean fails) {
            this.number = number;
            this.above = above;
            this.sort = sort;
            this.face = face;
            this.shut = shut;
            this.fails = fails;
            int own = 1 << number;
            this.line = own | (above == null ? 0 : above.line);
            this.all = own | (above == null ? 0 : above.all) | (face == null ? 0 : face.all);
        }

        /** Whether it is the other one, or has that one ABOVE it. */
        private boolean standsUnder(ClassModel other) {
            return (line >>> other.number & 1) != 0;
        }
    }

    private abstract static class Member {
        final ClassModel owner;
        final boolean isStatic;
        final boolean isHidden;

        private Member(ClassModel owner, boolean isStatic, boolean isHidden) {
            this.owner = owner;
            this.isStatic = isStatic;
            this.isHidden = isHidden;
        }
    }

    private static final class Field extends Member {
        private final int name;
        private final int type;
        private final boolean isFinal;
        /** What it holds at FIRST. */
        private final long first;
        /** Where OBJECTS keep it, if it is not STATIC. */
        private final int slot;
        /** What it holds, if it is STATIC. */
        private long held;

        private Field(ClassModel owner, int name, int type, boolean isStatic, boolean isFinal, boolean isHidden, int slot) {
            super(owner, isStatic, isHidden);
            this.name = name;
            this.type = type;
            this.isFinal = isFinal;
            this.slot = slot;
            this.first = type >= 0 ? NONE : 0;
            this.held = this.first;
        }
    }

    /** A METHOD's name and TYPES; what stands behind the n TYPES is dropped, so that it never matters. */
    private static final class Signature {
        private final int name;
        private final int n;
        private final int first;
        private final int second;

        private Signature(int name, int n, int first, int second) {
            this.name = name;
            this.n = n;
            this.first = n > 0 ? first : INT;
            this.second = n > 1 ? second : INT;
        }

        private boolean matches(Signature other) {
            return name == other.name && n == other.n && first == other.first && second == other.second;
        }

        private boolean isOutside() {
            return isOutsideName(name) || n < 0 || n > MAX_TYPES || first < LONG || second < LONG;
        }

        private boolean startsWithClass() {
            return n > 0 && first >= 0;
        }

        private boolean startsWithInt() {
            return n > 0 && first == INT;
        }
    }

    private static final class Method extends Member {
        private final Signature signature;
        private final int gives;
        private final boolean isAbstract;
        private final int body;
        private final int b;

        private Method(ClassModel owner, Signature signature, int gives, int marks, int body, int b) {
            super(owner, hasMark(marks, MARK_STATIC), hasMark(marks, MARK_HIDDEN));
            this.signature = signature;
            this.gives = gives;
            this.isAbstract = hasMark(marks, MARK_ABSTRACT);
            this.body = body;
            this.b = b;
        }

        /** Whether a call that goes by the receiver's class may end here. */
        private boolean canBeChosen() {
            return !isHidden && !isStatic && !isAbstract;
        }
    }

    private static final class Handle {
        private final int memberNumber;
        private final Member member;
        private boolean hasLeave = false;

        private Handle(int memberNumber, Member member) {
            this.memberNumber = memberNumber;
            this.member = member;
        }
    }

    /** An OBJECT; a PROXY has a FACE and a HANDLER of its own. */
    private static final class Thing {
        private final ClassModel model;
        private final int handler;
        private final long[] slots;
        /** The classes that it is OF, a bit each. */
        private final int all;
        private int asked = 0;

        private Thing(ClassModel model, ClassModel proxyFace, int handler, long[] slots) {
            this.model = model;
            this.handler = handler;
            this.slots = slots;
            this.all = model.all | (proxyFace == null ? 0 : proxyFace.all);
        }

        private boolean isOf(ClassModel other) {
            return (all >>> other.number & 1) != 0;
        }
    }

    /** A VALUE, used again and again. */
    private static final class Value {
        private int kind = NOTHING;
        private long number = 0;

        private void become(int newKind, long newNumber) {
            kind = newKind;
            number = newKind == NOTHING ? 0 : newNumber;
        }

        /** Takes what a place of a TYPE holds. */
        private void load(int type, long held) {
            if (type == INT) {
                become(AN_INT, held);
            } else if (type == LONG) {
                become(A_LONG, held);
            } else if (held == NONE) {
                become(NOTHING, 0);
            } else {
                become(AN_OBJECT, held);
            }
        }

        /** What a place holds of it: NONE for NOTHING, which only places of classes take. */
        private long toHold() {
            return kind == NOTHING ? NONE : number;
        }

        private void widenFor(int type) {
            if (type == LONG && kind == AN_INT) {
                kind = A_LONG;
            }
        }

        /** Becomes the number as what a METHOD gives: NOTHING, where that is no number. */
        private void becomeGiven(int gives, int given) {
            if (gives == INT) {
                become(AN_INT, given);
            } else if (gives == LONG) {
                become(A_LONG, given);
            } else {
                become(NOTHING, 0);
            }
        }
    }

    private final ClassModel[] classes = new ClassModel[MAX_CLASSES];
    private int classCount = 1;
    private final Member[] members = new Member[MAX_MEMBERS];
    private int memberCount = 0;
    private int slotCount = 0;
    private final Handle[] handles = new Handle[MAX_HANDLES];
    private int handleCount = 0;
    /** CONSTANTS come beyond the 60 that are made: up to 4 of each class. */
    private final Thing[] things = new Thing[MAX_MADE + MAX_CLASSES * MAX_CONSTANTS];
    private int thingCount = 0;
    private final Value[] values = new Value[MAX_VALUES];
    private int valueCount = 0;
    private int callerNumber = ROOT;
    private final Value outcome = new Value();
    private int latestFailure = 0;
    private int latestCause = 0;

    public ReflectModels() {
        classes[ROOT] = new ClassModel(ROOT, null, PLAIN, null, false, false);
        for (int i = 0; i < MAX_VALUES; i++) {
            values[i] = new Value();
        }
    }

    // ---- what there is

    public int type(int above, int sort, int face, boolean shut, boolean fails) {
        if (!isClass(above) || (face != NONE && !isClass(face))) {
            return UNKNOWN;
        }
        if (sort < PLAIN || sort > ENUMERATION) {
            return OUTSIDE;
        }
        ClassModel acted = face == NONE ? null : classes[face];
        if (!mayHaveAbove(sort, classes[above]) || !mayActAs(sort, acted)) {
            return STATE;
        }
        if (classCount >= MAX_CLASSES) {
            return FULL;
        }
        classes[classCount] = new ClassModel(classCount, classes[above], sort, acted, shut, fails);
        classCount++;
        return classCount - 1;
    }

    public int constants(int c, int n) {
        if (!isClass(c)) {
            return UNKNOWN;
        }
        if (n < 1 || n > MAX_CONSTANTS) {
            return OUTSIDE;
        }
        ClassModel model = classes[c];
        if (model.sort != ENUMERATION || model.constantCount > 0 || model.state != NOT_STARTED) {
            return STATE;
        }
        model.constantCount = n;
        return 1;
    }

    public int field(int c, int name, int type, boolean isStatic, boolean isFinal, boolean hidden) {
        if (!isClass(c) || isMissingClass(type)) {
            return UNKNOWN;
        }
        if (isOutsideName(name) || type < LONG) {
            return OUTSIDE;
        }
        ClassModel owner = classes[c];
        if (thingCount > 0 || !mayHaveField(owner, isStatic, isFinal) || ownField(owner, name) != NONE) {
            return STATE;
        }
        if (memberCount >= MAX_MEMBERS) {
            return FULL;
        }
        int slot = isStatic ? NONE : slotCount;
        if (!isStatic) {
            slotCount++;
        }
        return addMember(new Field(owner, name, type, isStatic, isFinal, hidden, slot));
    }

    public int method(int c, int name, int n, int first, int second, int gives, int marks, int body, int b) {
        Signature signature = new Signature(name, n, first, second);
        if (!isClass(c) || hasMissingClass(signature) || isMissingClass(gives)) {
            return UNKNOWN;
        }
        if (signature.isOutside() || gives < VOID || areOutsideMarks(marks) || isOutsideBody(body, b)) {
            return OUTSIDE;
        }
        Method told = new Method(classes[c], signature, gives, marks, body, b);
        if (thingCount > 0 || !mayHaveMethod(told) || !bodySuits(told) || ownMethod(told.owner, signature) != NONE) {
            return STATE;
        }
        if (memberCount >= MAX_MEMBERS) {
            return FULL;
        }
        return addMember(told);
    }

    // ---- looking

    public int caller(int c) {
        if (!isClass(c)) {
            return UNKNOWN;
        }
        int before = callerNumber;
        callerNumber = c;
        return before;
    }

    public int findField(int c, int name, boolean up) {
        if (!isClass(c)) {
            return UNKNOWN;
        }
        if (isOutsideName(name)) {
            return OUTSIDE;
        }
        return addHandle(up ? visibleField(classes[c], name) : ownField(classes[c], name));
    }

    public int findMethod(int c, int name, int n, int first, int second, boolean up) {
        Signature wanted = new Signature(name, n, first, second);
        if (!isClass(c) || hasMissingClass(wanted)) {
            return UNKNOWN;
        }
        if (wanted.isOutside()) {
            return OUTSIDE;
        }
        return addHandle(up ? visibleMethod(classes[c], wanted) : ownMethod(classes[c], wanted));
    }

    public int leave(int h) {
        if (!isHandle(h)) {
            return UNKNOWN;
        }
        ClassModel owner = handles[h].member.owner;
        if (owner.shut && owner.number != callerNumber) {
            return failed(NO_LEAVE);
        }
        handles[h].hasLeave = true;
        return 1;
    }

    // ---- acts: VALUES

    public int value(int k, int kind, long v) {
        if (kind == AN_OBJECT && (v < 0 || v >= thingCount)) {
            return UNKNOWN;
        }
        if (k < 0 || k > valueCount || k >= MAX_VALUES || kind < NOTHING || kind > AN_OBJECT) {
            return OUTSIDE;
        }
        if (kind == AN_INT && (v < Integer.MIN_VALUE || v > Integer.MAX_VALUE)) {
            return OUTSIDE;
        }
        values[k].become(kind, v);
        valueCount = k + 1;
        return valueCount;
    }

    public int get(int h, int receiver, int as) {
        if (!isHandle(h) || !isReceiver(receiver)) {
            return UNKNOWN;
        }
        if (as != INT && as != LONG && as != AS_IT_IS) {
            return OUTSIDE;
        }
        if (!(handles[h].member instanceof Field field)) {
            return STATE;
        }
        outcome.become(NOTHING, 0);
        int failure = getFailure(handles[h], field, receiver, as);
        if (failure != 0) {
            return failed(failure);
        }
        outcome.load(field.type, heldIn(field, receiver));
        outcome.widenFor(as);
        return 1;
    }

    public int set(int h, int receiver) {
        if (!isHandle(h) || !isReceiver(receiver)) {
            return UNKNOWN;
        }
        if (valueCount == 0 || !(handles[h].member instanceof Field field)) {
            return STATE;
        }
        int failure = setFailure(handles[h], field, receiver);
        if (failure != 0) {
            return failed(failure);
        }
        holdIn(field, receiver, values[0].toHold());
        return 1;
    }

    public int call(int h, int receiver) {
        if (!isHandle(h) || !isReceiver(receiver)) {
            return UNKNOWN;
        }
        if (!(handles[h].member instanceof Method named)) {
            return STATE;
        }
        outcome.become(NOTHING, 0);
        int failure = callFailure(handles[h], named, receiver);
        if (failure != 0) {
            return failed(failure);
        }
        int thrown = perform(named, receiver);
        if (thrown != 0) {
            outcome.become(NOTHING, 0);
            latestCause = thrown;
            return failed(WRAPPED);
        }
        return 1;
    }

    public int make(int c) {
        if (!isClass(c)) {
            return UNKNOWN;
        }
        if (thingCount >= MAX_MADE) {
            return FULL;
        }
        int failure = makeFailure(classes[c]);
        if (failure != 0) {
            return failed(failure);
        }
        int made = addThing(classes[c], null, NO_HANDLER);
        if (classes[c].sort == RECORD) {
            fillRecord(classes[c], made);
        }
        return made;
    }

    public int proxy(int face, int handler) {
        if (!isClass(face)) {
            return UNKNOWN;
        }
        if (handler < COUNTS || handler > ECHOES) {
            return OUTSIDE;
        }
        if (classes[face].sort != FACE) {
            return STATE;
        }
        if (thingCount >= MAX_MADE) {
            return FULL;
        }
        return addThing(classes[ROOT], classes[face], handler);
    }

    public int constant(int c, int i) {
        if (!isClass(c)) {
            return UNKNOWN;
        }
        ClassModel model = classes[c];
        if (model.sort != ENUMERATION) {
            return STATE;
        }
        int failure = startFailure(model);
        if (failure != 0) {
            return failed(failure);
        }
        return i >= 0 && i < model.constantCount ? model.firstConstant + i : NONE;
    }

    public int start(int c) {
        if (!isClass(c)) {
            return UNKNOWN;
        }
        int failure = startFailure(classes[c]);
        return failure != 0 ? failed(failure) : 1;
    }

    // ---- what came

    public int resultKind() {
        return outcome.kind;
    }

    public long result() {
        return outcome.number;
    }

    public int cause() {
        return latestCause;
    }

    public int about(int c, int what) {
        if (!isClass(c)) {
            return UNKNOWN;
        }
        ClassModel model = classes[c];
        switch (what) {
            case 0:
                return model.sort;
            case 1:
                return model.above == null ? NONE : model.above.number;
            case 2:
                return model.face == null ? NONE : model.face.number;
            case 3:
                return model.state;
            case 4:
                return model.ownMembers;
            default:
                return OUTSIDE;
        }
    }

    public int is(int o, int c) {
        if (!isThing(o) || !isClass(c)) {
            return UNKNOWN;
        }
        return things[o].isOf(classes[c]) ? 1 : 0;
    }

    public int handle(int h, int what) {
        if (!isHandle(h)) {
            return UNKNOWN;
        }
        switch (what) {
            case 0:
                return handles[h].memberNumber;
            case 1:
                return handles[h].hasLeave ? 1 : 0;
            case 2:
                return mayUse(handles[h]) ? 1 : 0;
            default:
                return OUTSIDE;
        }
    }

    public int told(int what) {
        switch (what) {
            case 0:
                return classCount;
            case 1:
                return memberCount;
            case 2:
                return handleCount;
            case 3:
                return thingCount;
            case 4:
                return valueCount;
            case 5:
                return latestFailure;
            default:
                return OUTSIDE;
        }
    }

    // ---- what numbers name

    private boolean isClass(int c) {
        return c >= 0 && c < classCount;
    }

    private boolean isHandle(int h) {
        return h >= 0 && h < handleCount;
    }

    private boolean isThing(int o) {
        return o >= 0 && o < thingCount;
    }

    private boolean isReceiver(int o) {
        return o == NONE || isThing(o);
    }

    private boolean isMissingClass(int type) {
        return type >= classCount;
    }

    private boolean hasMissingClass(Signature signature) {
        return isMissingClass(signature.first) || isMissingClass(signature.second);
    }

    private static boolean isOutsideName(int name) {
        return name < 0 || name > MAX_NAME;
    }

    private static boolean hasMark(int marks, int mark) {
        return (marks & mark) != 0;
    }

    private static boolean areOutsideMarks(int marks) {
        return marks < 0 || marks > ALL_MARKS || (hasMark(marks, MARK_ABSTRACT) && marks != MARK_ABSTRACT);
    }

    private static boolean isOutsideBody(int body, int b) {
        return body < GIVES_NUMBER || body > STORES || (body == FAILS && (b < 0 || b > MAX_OWN_NUMBER));
    }

    // ---- what may be told

    private static boolean mayHaveAbove(int sort, ClassModel above) {
        if (above.sort == RECORD || above.sort == ENUMERATION) {
            return false;
        }
        if (sort == PLAIN || sort == ABSTRACT) {
            return true;
        }
        return above.number == ROOT || (sort == FACE && above.sort == FACE);
    }

    private static boolean mayActAs(int sort, ClassModel face) {
        return face == null || (sort != FACE && face.sort == FACE);
    }

    private static boolean mayHaveField(ClassModel owner, boolean isStatic, boolean isFinal) {
        if (owner.number == ROOT || owner.sort == FACE) {
            return isStatic;
        }
        return owner.sort != RECORD || (!isStatic && isFinal);
    }

    private static boolean mayHaveMethod(Method told) {
        int sort = told.owner.sort;
        if (sort == FACE) {
            return told.isAbstract || told.isStatic;
        }
        return !told.isAbstract || sort == ABSTRACT;
    }

    /** Whether the BODY finds the TYPES, and the class or MEMBER b, that it works on. */
    private boolean bodySuits(Method told) {
        switch (told.body) {
            case DIVIDES:
                return told.signature.startsWithInt() && told.signature.n > 1 && told.signature.second == INT;
            case CASTS:
            case STORES:
                return told.signature.startsWithClass() && isClass(told.b);
            case READS_FIELD:
                return told.signature.startsWithClass() && fieldToRead(told.b) != null;
            case PICKS_ITEM:
                return told.signature.startsWithInt();
            case GIVES_RECEIVER:
                return !told.isStatic;
            default:
                return true;
        }
    }

    /** The FIELD with this MEMBER number that OBJECTS have, or null. */
    private Field fieldToRead(int number) {
        if (number < 0 || number >= memberCount) {
            return null;
        }
        return members[number] instanceof Field field && !field.isStatic ? field : null;
    }

    private int addMember(Member told) {
        members[memberCount] = told;
        memberCount++;
        told.owner.ownMembers++;
        return memberCount - 1;
    }

    // ---- looking for MEMBERS: their numbers, or NONE

    private int ownField(ClassModel owner, int name) {
        for (int i = 0; i < memberCount; i++) {
            if (members[i] instanceof Field field && field.owner == owner && field.name == name) {
                return i;
            }
        }
        return NONE;
    }

    private int ownMethod(ClassModel owner, Signature wanted) {
        for (int i = 0; i < memberCount; i++) {
            if (members[i] instanceof Method method && method.owner == owner && method.signature.matches(wanted)) {
                return i;
            }
        }
        return NONE;
    }

    private int visibleField(ClassModel from, int name) {
        for (ClassModel model = from; model != null; model = model.above) {
            int found = ownField(model, name);
            if (found != NONE && !members[found].isHidden) {
                return found;
            }
        }
        return NONE;
    }

    private int visibleMethod(ClassModel from, Signature wanted) {
        int found = visibleMethodUpward(from, wanted);
        for (ClassModel model = from; model != null && found == NONE; model = model.above) {
            found = visibleMethodUpward(model.face, wanted);
        }
        return found;
    }

    private int visibleMethodUpward(ClassModel from, Signature wanted) {
        for (ClassModel model = from; model != null; model = model.above) {
            int found = ownMethod(model, wanted);
            if (found != NONE && !members[found].isHidden) {
                return found;
            }
        }
        return NONE;
    }

    private int addHandle(int member) {
        if (member == NONE) {
            return failed(NO_MEMBER);
        }
        if (handleCount >= MAX_HANDLES) {
            return FULL;
        }
        handles[handleCount] = new Handle(member, members[member]);
        handleCount++;
        return handleCount - 1;
    }

    // ---- FAILURES of acts; 0: none

    private int failed(int failure) {
        latestFailure = failure;
        return FAILURE_BASE - failure;
    }

    private boolean mayUse(Handle handle) {
        Member member = handle.member;
        return !member.isHidden || member.owner.number == callerNumber || handle.hasLeave;
    }

    /** Those ABOVE a class have lower numbers, so going up by number STARTS them ahead of it. */
    private int startFailure(ClassModel wanted) {
        int failure = 0;
        for (int i = 0; i < classCount && i <= wanted.number; i++) {
            if (wanted.standsUnder(classes[i])) {
                if (failure != 0) {
                    classes[i].state = FAILED;
                } else {
                    failure = startAlone(classes[i]);
                }
            }
        }
        return failure;
    }

    private int startAlone(ClassModel model) {
        if (model.state == STARTED) {
            return 0;
        }
        if (model.state == FAILED) {
            return NO_DEFINITION;
        }
        if (model.fails) {
            model.state = FAILED;
            return START_FAILED;
        }
        model.state = STARTED;
        model.firstConstant = thingCount;
        for (int i = 0; i < model.constantCount; i++) {
            addThing(model, null, NO_HANDLER);
        }
        return 0;
    }

    private int receiverFailure(Member member, int receiver) {
        if (receiver == NONE) {
            return NO_RECEIVER;
        }
        return things[receiver].isOf(member.owner) ? 0 : UNLIKE;
    }

    private int reachFailure(Member member, int receiver) {
        return member.isStatic ? startFailure(member.owner) : receiverFailure(member, receiver);
    }

    private int getFailure(Handle handle, Field field, int receiver, int as) {
        if (!mayUse(handle)) {
            return NO_LEAVE;
        }
        boolean readable = as == AS_IT_IS || as == field.type || (as == LONG && field.type == INT);
        return readable ? reachFailure(field, receiver) : UNLIKE;
    }

    private int setFailure(Handle handle, Field field, int receiver) {
        if (!mayUse(handle)) {
            return NO_LEAVE;
        }
        int failure = reachFailure(field, receiver);
        if (failure != 0) {
            return failure;
        }
        boolean leaveHelps = handle.hasLeave && !field.isStatic && field.owner.sort != RECORD;
        if (field.isFinal && !leaveHelps) {
            return IS_FINAL;
        }
        return fits(values[0], field.type) ? 0 : UNLIKE;
    }

    private int callFailure(Handle handle, Method named, int receiver) {
        if (!mayUse(handle)) {
            return NO_LEAVE;
        }
        if (named.isStatic) {
            return valuesFit(named.signature) ? startFailure(named.owner) : UNLIKE;
        }
        int failure = receiverFailure(named, receiver);
        if (failure != 0) {
            return failure;
        }
        return valuesFit(named.signature) ? 0 : UNLIKE;
    }

    private int makeFailure(ClassModel model) {
        if (model.sort == ABSTRACT || model.sort == FACE) {
            return IS_ABSTRACT;
        }
        boolean suits = model.sort == RECORD ? recordFits(model) : model.sort == PLAIN && valueCount == 0;
        return suits ? startFailure(model) : UNLIKE;
    }

    // ---- VALUES and where they are held

    private boolean fits(Value value, int type) {
        if (type == INT) {
            return value.kind == AN_INT;
        }
        if (type == LONG) {
            return value.kind == AN_INT || value.kind == A_LONG;
        }
        return value.kind == NOTHING || isObjectOf(value, type);
    }

    private boolean isObjectOf(Value value, int c) {
        if (value.kind != AN_OBJECT || value.number < 0 || value.number >= thingCount) {
            return false;
        }
        return isClass(c) && things[(int) value.number].isOf(classes[c]);
    }

    private boolean valuesFit(Signature signature) {
        if (valueCount != signature.n) {
            return false;
        }
        return (signature.n < 1 || fits(values[0], signature.first))
            && (signature.n < 2 || fits(values[1], signature.second));
    }

    private boolean recordFits(ClassModel model) {
        int k = 0;
        for (int i = 0; i < memberCount; i++) {
            if (members[i] instanceof Field field && field.owner == model) {
                if (k >= valueCount || !fits(values[k], field.type)) {
                    return false;
                }
                k++;
            }
        }
        return k == valueCount;
    }

    private void fillRecord(ClassModel model, int made) {
        int k = 0;
        for (int i = 0; i < memberCount && k < valueCount; i++) {
            if (members[i] instanceof Field field && field.owner == model) {
                holdIn(field, made, values[k].toHold());
                k++;
            }
        }
    }

    private int addThing(ClassModel model, ClassModel proxyFace, int handler) {
        if (thingCount >= things.length) {
            return NONE;
        }
        things[thingCount] = new Thing(model, proxyFace, handler, firstSlots());
        thingCount++;
        return thingCount - 1;
    }

    private long[] firstSlots() {
        long[] slots = new long[slotCount];
        for (int i = 0; i < memberCount; i++) {
            if (members[i] instanceof Field field && !field.isStatic && field.slot < slots.length) {
                slots[field.slot] = field.first;
            }
        }
        return slots;
    }

    /** Whether the OBJECT has a place for the FIELD. */
    private boolean hasSlot(Field field, int o) {
        return isThing(o) && field.slot >= 0 && field.slot < things[o].slots.length;
    }

    private long heldIn(Field field, int o) {
        if (field.isStatic || !hasSlot(field, o)) {
            return field.held;
        }
        return things[o].slots[field.slot];
    }

    private void holdIn(Field field, int o, long held) {
        if (field.isStatic) {
            field.held = held;
        } else if (hasSlot(field, o)) {
            things[o].slots[field.slot] = held;
        }
    }

    // ---- doing a METHOD: the RESULT goes into outcome; a CAUSE comes back, 0 if there is none

    private int perform(Method named, int receiver) {
        if (isAnsweredByHandler(named, receiver)) {
            int thrown = askHandler(things[receiver], named.signature);
            return thrown != 0 ? thrown : fitOutcome(named.gives);
        }
        Method done = methodToDo(named, receiver);
        if (done == null) {
            return NO_BODY;
        }
        int thrown = runBody(done, receiver);
        if (thrown == 0) {
            thrown = fitOutcome(done.gives);
        }
        if (thrown == 0 && done != named) {
            thrown = fitOutcome(named.gives);
        }
        return thrown;
    }

    private boolean isAnsweredByHandler(Method named, int receiver) {
        if (named.isStatic || named.owner.sort != FACE || !isThing(receiver)) {
            return false;
        }
        return things[receiver].handler != NO_HANDLER;
    }

    private int askHandler(Thing proxied, Signature signature) {
        proxied.asked++;
        switch (proxied.handler) {
            case COUNTS:
                outcome.become(AN_INT, proxied.asked);
                return 0;
            case REFUSES:
                return OWN_CAUSE + REFUSER_NUMBER;
            case ECHOES:
                echoFirst(signature);
                return 0;
            case ANSWERS_NOTHING:
            default:
                outcome.become(NOTHING, 0);
                return 0;
        }
    }

    private void echoFirst(Signature signature) {
        if (signature.n < 1) {
            outcome.become(NOTHING, 0);
            return;
        }
        outcome.become(values[0].kind, values[0].number);
        outcome.widenFor(signature.first);
    }

    private Method methodToDo(Method named, int receiver) {
        if (named.isHidden || named.isStatic) {
            return named;
        }
        if (!isThing(receiver)) {
            return null;
        }
        for (ClassModel model = things[receiver].model; model != null; model = model.above) {
            int found = ownMethod(model, named.signature);
            if (found != NONE && members[found] instanceof Method method && method.canBeChosen()) {
                return method;
            }
        }
        return null;
    }

    private int runBody(Method done, int receiver) {
        switch (done.body) {
            case DIVIDES:
                return divide();
            case CASTS:
                return castFirst(done.b);
            case READS_FIELD:
                return readFieldOfFirst(done.b);
            case PICKS_ITEM:
                return pickItem(done.b);
            case FAILS:
                return OWN_CAUSE + done.b;
            case GIVES_RECEIVER:
                outcome.become(AN_OBJECT, receiver);
                return 0;
            case STORES:
                return storeFirst(done);
            case GIVES_NUMBER:
            default:
                outcome.becomeGiven(done.gives, done.b);
                return 0;
        }
    }

    private int divide() {
        int divisor = (int) values[1].number;
        if (divisor == 0) {
            return BY_ZERO;
        }
        outcome.become(AN_INT, (int) values[0].number / divisor);
        return 0;
    }

    private int castFirst(int c) {
        if (!fits(values[0], c)) {
            return BAD_CAST;
        }
        outcome.become(values[0].kind, values[0].number);
        return 0;
    }

    private int readFieldOfFirst(int number) {
        Field field = fieldToRead(number);
        if (values[0].kind == NOTHING) {
            return NULL_USED;
        }
        if (field == null || !isObjectOf(values[0], field.owner.number)) {
            return BAD_CAST;
        }
        outcome.load(field.type, heldIn(field, (int) values[0].number));
        return 0;
    }

    private int pickItem(int rowStart) {
        long index = values[0].number;
        if (index < 0 || index >= ROW_LENGTH) {
            return BAD_INDEX;
        }
        outcome.become(AN_INT, rowStart + (int) index);
        return 0;
    }

    private int storeFirst(Method done) {
        if (!fits(values[0], done.b)) {
            return BAD_STORE;
        }
        outcome.becomeGiven(done.gives, 0);
        return 0;
    }

    /** Fits the RESULT to what a METHOD gives. */
    private int fitOutcome(int gives) {
        if (gives == VOID) {
            outcome.become(NOTHING, 0);
            return 0;
        }
        if (fits(outcome, gives)) {
            outcome.widenFor(gives);
            return 0;
        }
        return gives < 0 && outcome.kind == NOTHING ? NULL_USED : BAD_CAST;
    }
}
