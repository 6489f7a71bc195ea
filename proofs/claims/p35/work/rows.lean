section
/-! Every start that this claim speaks of has the array class of java/lang/StackTraceElement in its table of classes; the printed start has it not. So the printed start meets no premise of this claim: witness_1 can't be proved as it is printed, whatever the class is. -/
/-- by the premise that this class can't be cast to java/lang/String: an atom of that kind holds nothing, and neither does its negation, where one of the two names is not in the table -/
theorem ze_named {args : Array Value} {s : State} (h : (Jvm.Cond.and given_1 narrow_1).before args s = true) : s.vm.findClass "[Ljava/lang/StackTraceElement;" ≠ none := by
  have hw : (Jvm.Cond.not (Jvm.Cond.castable "[Ljava/lang/StackTraceElement;" "java/lang/String")).before args s = true := flat_of_before _ h _ (by decide +kernel)
  intro hn
  have hv : (Jvm.Cond.castable "[Ljava/lang/StackTraceElement;" "java/lang/String").value args s none s [] = none := by
    simp only [Jvm.Cond.value, hn]
  have : (Jvm.Cond.not (Jvm.Cond.castable "[Ljava/lang/StackTraceElement;" "java/lang/String")).value args s none s [] = none := by
    show ((Jvm.Cond.castable "[Ljava/lang/StackTraceElement;" "java/lang/String").value args s none s []).map (!·) = none
    rw [hv]; rfl
  unfold Jvm.Cond.before Jvm.Cond.holds at hw
  rw [this] at hw
  exact absurd hw (by decide)
/-- the names of the classes of the printed start, in the order of its table (read out of the printed text by a program) -/
def ze_printed : List String := ["GanglineLaw", "java/lang/Object", "Gangline", "Gangline$Plan", "Gangline$Party", "Gangline$Dog", "GanglineModel", "Gangline$Leg", "GanglineModel$Leg", "jdk/internal/util/ArraysSupport", "java/lang/Math", "java/util/Arrays", "java/lang/System", "java/util/Objects", "jdk/internal/util/Preconditions", "Gangline$Storm", "Gangline$Team", "GanglineModel$Team", "GanglineModel$Dog", "java/lang/StringLatin1", "java/lang/StringUTF16", "java/util/Iterator", "java/lang/Cloneable", "java/util/RandomAccess", "java/io/Serializable", "java/lang/Comparable", "java/lang/CharSequence", "java/lang/constant/Constable", "java/lang/constant/ConstantDesc", "java/lang/Appendable", "java/lang/Iterable", "java/lang/Throwable", "java/util/ArrayList$Itr", "java/lang/String", "java/lang/Character", "java/lang/AbstractStringBuilder", "java/lang/Number", "java/util/Collection", "java/util/AbstractCollection", "java/lang/Exception", "java/lang/StringBuilder", "java/lang/Integer", "java/util/SequencedCollection", "java/lang/RuntimeException", "java/util/List", "java/util/AbstractList", "java/lang/IllegalArgumentException", "java/lang/UnsupportedOperationException", "java/lang/IllegalStateException", "java/util/NoSuchElementException", "java/lang/IndexOutOfBoundsException", "java/lang/ArithmeticException", "java/util/ArrayList", "java/lang/ArrayIndexOutOfBoundsException", "int", "[I", "char", "[C", "byte", "[B", "long", "[J", "double", "[D", "[LGangline$Leg;", "[LGangline$Storm;", "[LGangline$Dog;", "[LGangline$Team;", "[LGangline$Party;", "[Ljava/lang/Object;"]
theorem ze_none : ∀ n ∈ ze_printed, (n == "[Ljava/lang/StackTraceElement;") = false := by decide +kernel
/-- no state whose table of classes has the printed start's names, and no other, meets the premises -/
theorem ze_no_start {args : Array Value} {s : State} (hs : s.vm.classes.toList.map (fun k => k.name) = ze_printed) : ¬ (Jvm.Cond.and given_1 narrow_1).before args s = true := by
  intro h
  refine ze_named h ?_
  unfold Jvm.Vm.findClass
  rw [Array.findIdx?_eq_none_iff]
  intro k hk
  have hm : k.name ∈ ze_printed := by
    rw [← hs]
    exact List.mem_map.mpr ⟨k, Array.mem_toList_iff.mpr hk, rfl⟩
  rw [ze_none _ hm]
  rfl
end
