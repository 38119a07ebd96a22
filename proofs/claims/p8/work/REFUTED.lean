import JvmDerived.Pilot.CSkyAdvisorLaw_law_r6016_4850f8M19
import JvmDerived.Pilot.CSkyAdvisorLaw_law_r6016_4850f8M31
set_option linter.unusedVariables false
set_option linter.unusedSimpArgs false
set_option maxRecDepth 16384
namespace Jvm.Pilot.CSkyAdvisorLaw_law_r6016_4850f8
open Jvm Jvm.ClassFile Sem Op Jvm.Lib Jvm.Free Jvm.Stand Jvm.Pilot.CSkyAdvisorLaw_law_r6016_4850f8.Jvm.D
/-! The printed start, changed in three places: a second class of the kind 'array of int', without superclass (number 25); AT_FIRST's cell (number 3) is of that class;
an AbstractMethodError whose constructor does nothing (number 26). It meets every premise; the run throws at AT_FIRST.clone(). -/
def cx_init : ByteArray := ⟨#[0xb1]⟩
def cx_two : Class := { start1.cArr "second" 15 .int with super := none }
def cx_err : Class := { start1.c14 with
  name := "java/lang/AbstractMethodError"
  methods := #[Lib.HandJ.method "<init>" "(Ljava/lang/String;)V" [.object "java/lang/String"] none 0x1 2 cx_init]
  super := some 8 }
def cx_about : State := { start1.about with
  vm := { start1.about.vm with classes := (start1.about.vm.classes.push cx_two).push cx_err }
  heap := start1.about.heap.setIfInBounds 3 { cls := 25, slots := #[.int 30, .int 1000, .int 2000, .int 250, .int 200, .int 5, .int 8], vm := .none } }
def cx_same (y : MethodName) : Bool := match start1.about.methodNamed? y with
  | some m => decide (cx_about.methodNamed? y = some m) && decide (m.cls < 25)
  | none => false
def cx_sameC : Cond → Bool
  | .code y _ _ _ => cx_same y
  | _ => false
theorem cx_class {i : Nat} (h : i < 25) : cx_about.vm.classes[i]? = start1.about.vm.classes[i]? := by
  have hz : start1.about.vm.classes.size = 25 := rfl
  show ((start1.about.vm.classes.push cx_two).push cx_err)[i]? = _
  rw [Array.getElem?_push, Array.getElem?_push, Array.size_push, hz, if_neg (by omega), if_neg (by omega)]
theorem cx_code {c : Cond} (hs : cx_sameC c = true) (h : c.before start1.args0 start1.about = true) : c.before start1.args0 cx_about = true := by
  cases c <;> simp only [cx_sameC] at hs <;> try cases hs
  rename_i y b l r
  unfold cx_same at hs
  cases hm : start1.about.methodNamed? y with
  | none => rw [hm] at hs; cases hs
  | some m =>
    rw [hm] at hs
    simp only [Bool.and_eq_true, decide_eq_true_eq] at hs
    have he : cx_about.vm.method? m = start1.about.vm.method? m := by
      simp only [Vm.method?, cx_class hs.2]
    simp only [Cond.before, Cond.holds, Cond.value, hm, hs.1, Option.bind_some] at h ⊢
    rw [he]; exact h
theorem cx_list {l : List Cond} (h1 : ∀ c ∈ l, c.before start1.args0 start1.about = true)
    (h2 : l.all (fun c => cx_sameC c || (!su_isCode c && c.before start1.args0 cx_about)) = true) : ∀ c ∈ l, c.before start1.args0 cx_about = true := by
  intro c hc
  have h := List.all_eq_true.mp h2 c hc
  simp only [Bool.or_eq_true, Bool.and_eq_true] at h
  rcases h with h | h
  · exact cx_code h (h1 c hc)
  · exact h.2
theorem cx_t_1_0 : (tables_1_1.take 40).all (fun c => cx_sameC c || (!su_isCode c && c.before start1.args0 cx_about)) = true := by decide +kernel
theorem cx_t_1_1 : ((tables_1_1.drop 40).take 40).all (fun c => cx_sameC c || (!su_isCode c && c.before start1.args0 cx_about)) = true := by decide +kernel
theorem cx_t_1_2 : (((tables_1_1.drop 40).drop 40).take 40).all (fun c => cx_sameC c || (!su_isCode c && c.before start1.args0 cx_about)) = true := by decide +kernel
theorem cx_t_1_3 : ((((tables_1_1.drop 40).drop 40).drop 40).take 40).all (fun c => cx_sameC c || (!su_isCode c && c.before start1.args0 cx_about)) = true := by decide +kernel
theorem cx_t_1_4 : (((((tables_1_1.drop 40).drop 40).drop 40).drop 40).take 40).all (fun c => cx_sameC c || (!su_isCode c && c.before start1.args0 cx_about)) = true := by decide +kernel
theorem cx_t_1_5 : (((((tables_1_1.drop 40).drop 40).drop 40).drop 40).drop 40).all (fun c => cx_sameC c || (!su_isCode c && c.before start1.args0 cx_about)) = true := by decide +kernel
theorem cx_t_1 : tables_1_1.all (fun c => cx_sameC c || (!su_isCode c && c.before start1.args0 cx_about)) = true := start1.su_all_split _ 40 tables_1_1 cx_t_1_0 (start1.su_all_split _ 40 (tables_1_1.drop 40) cx_t_1_1 (start1.su_all_split _ 40 ((tables_1_1.drop 40).drop 40) cx_t_1_2 (start1.su_all_split _ 40 (((tables_1_1.drop 40).drop 40).drop 40) cx_t_1_3 (start1.su_all_split _ 40 ((((tables_1_1.drop 40).drop 40).drop 40).drop 40) cx_t_1_4 (cx_t_1_5)))))
theorem cx_t_2_0 : (tables_1_2.take 40).all (fun c => cx_sameC c || (!su_isCode c && c.before start1.args0 cx_about)) = true := by decide +kernel
theorem cx_t_2_1 : ((tables_1_2.drop 40).take 40).all (fun c => cx_sameC c || (!su_isCode c && c.before start1.args0 cx_about)) = true := by decide +kernel
theorem cx_t_2_2 : (((tables_1_2.drop 40).drop 40).take 40).all (fun c => cx_sameC c || (!su_isCode c && c.before start1.args0 cx_about)) = true := by decide +kernel
theorem cx_t_2_3 : ((((tables_1_2.drop 40).drop 40).drop 40).take 40).all (fun c => cx_sameC c || (!su_isCode c && c.before start1.args0 cx_about)) = true := by decide +kernel
theorem cx_t_2_4 : (((((tables_1_2.drop 40).drop 40).drop 40).drop 40).take 40).all (fun c => cx_sameC c || (!su_isCode c && c.before start1.args0 cx_about)) = true := by decide +kernel
theorem cx_t_2_5 : (((((tables_1_2.drop 40).drop 40).drop 40).drop 40).drop 40).all (fun c => cx_sameC c || (!su_isCode c && c.before start1.args0 cx_about)) = true := by decide +kernel
theorem cx_t_2 : tables_1_2.all (fun c => cx_sameC c || (!su_isCode c && c.before start1.args0 cx_about)) = true := start1.su_all_split _ 40 tables_1_2 cx_t_2_0 (start1.su_all_split _ 40 (tables_1_2.drop 40) cx_t_2_1 (start1.su_all_split _ 40 ((tables_1_2.drop 40).drop 40) cx_t_2_2 (start1.su_all_split _ 40 (((tables_1_2.drop 40).drop 40).drop 40) cx_t_2_3 (start1.su_all_split _ 40 ((((tables_1_2.drop 40).drop 40).drop 40).drop 40) cx_t_2_4 (cx_t_2_5)))))
theorem cx_t_3_0 : (tables_1_3.take 40).all (fun c => cx_sameC c || (!su_isCode c && c.before start1.args0 cx_about)) = true := by decide +kernel
theorem cx_t_3_1 : ((tables_1_3.drop 40).take 40).all (fun c => cx_sameC c || (!su_isCode c && c.before start1.args0 cx_about)) = true := by decide +kernel
theorem cx_t_3_2 : (((tables_1_3.drop 40).drop 40).take 40).all (fun c => cx_sameC c || (!su_isCode c && c.before start1.args0 cx_about)) = true := by decide +kernel
theorem cx_t_3_3 : ((((tables_1_3.drop 40).drop 40).drop 40).take 40).all (fun c => cx_sameC c || (!su_isCode c && c.before start1.args0 cx_about)) = true := by decide +kernel
theorem cx_t_3_4 : (((((tables_1_3.drop 40).drop 40).drop 40).drop 40).take 40).all (fun c => cx_sameC c || (!su_isCode c && c.before start1.args0 cx_about)) = true := by decide +kernel
theorem cx_t_3_5 : (((((tables_1_3.drop 40).drop 40).drop 40).drop 40).drop 40).all (fun c => cx_sameC c || (!su_isCode c && c.before start1.args0 cx_about)) = true := by decide +kernel
theorem cx_t_3 : tables_1_3.all (fun c => cx_sameC c || (!su_isCode c && c.before start1.args0 cx_about)) = true := start1.su_all_split _ 40 tables_1_3 cx_t_3_0 (start1.su_all_split _ 40 (tables_1_3.drop 40) cx_t_3_1 (start1.su_all_split _ 40 ((tables_1_3.drop 40).drop 40) cx_t_3_2 (start1.su_all_split _ 40 (((tables_1_3.drop 40).drop 40).drop 40) cx_t_3_3 (start1.su_all_split _ 40 ((((tables_1_3.drop 40).drop 40).drop 40).drop 40) cx_t_3_4 (cx_t_3_5)))))
theorem cx_t_4_0 : tables_1_4.all (fun c => cx_sameC c || (!su_isCode c && c.before start1.args0 cx_about)) = true := by decide +kernel
theorem cx_t_4 : tables_1_4.all (fun c => cx_sameC c || (!su_isCode c && c.before start1.args0 cx_about)) = true := cx_t_4_0
theorem cx_words : ∀ c ∈ (Cond.code x code maxLocals ret :: tables_1), c.before start1.args0 cx_about = true := by
  intro c hc
  rcases List.mem_cons.mp hc with h | h
  · rw [h]; exact cx_code (by decide +kernel) (start1.words _ (List.mem_cons_self ..))
  · have h1 : c ∈ tables_1_1 ++ (tables_1_2 ++ (tables_1_3 ++ (tables_1_4))) := h
    rcases List.mem_append.mp h1 with h2 | h1
    · exact cx_list start1.words_1 cx_t_1 c h2
    rcases List.mem_append.mp h1 with h2 | h1
    · exact cx_list start1.words_2 cx_t_2 c h2
    rcases List.mem_append.mp h1 with h2 | h1
    · exact cx_list start1.words_3 cx_t_3 c h2
    exact cx_list start1.words_4 cx_t_4 c h1
theorem cx_atStart : AtStart classFile x code maxLocals ret World_1 tables_1 room_1 Calls_1 rest_1 Pre_1 launch0 start1.p0 start1.e0 cx_about ⟨0, 0⟩ start1.args0 Lib.HandBits.below0 :=
  ⟨lists_1, trivial, launch0.admits_env _ _ _, launch0.least_env, fairChoices_fair.cas, fairChoices_fair.clock, rfl, by decide +kernel, by decide +kernel,
    (Spec.applies_iff rfl).mpr ⟨rfl, rfl, rfl, by decide +kernel, by decide +kernel, by decide +kernel,
      launch0.hasRoom_least _ room_1 (by decide +kernel) (by decide +kernel) (by decide +kernel) (by decide +kernel) (by decide +kernel) (by decide +kernel), atoms_intro cx_words⟩,
    trivial, (show rest_1_c.before start1.args0 cx_about = true by decide +kernel), (show (Cond.and given_1 narrow_1).before start1.args0 cx_about = true by decide +kernel)⟩
/-! The run: twenty-three steps, then the exception has left the law. -/
/-- The list's last frame is the invoker's, and before it stands something else than the note of an exception alone. -/
def cx_under (l : List Frame) : Option (Frame × List Frame) := match l.reverse with
  | .native { method := ⟨0, 0⟩, args := ⟨[]⟩, stage := 0, saved := ⟨[]⟩, awaiting := false, answer := none, locked := none, words := 0 } :: a :: r => some (a, r)
  | _ => none
theorem cx_under_eq {l : List Frame} {a : Frame} {r : List Frame} (h : cx_under l = some (a, r)) : l = r.reverse ++ a :: Lib.HandBits.below0 := by
  revert h; unfold cx_under; split
  · rename_i hl
    intro h
    cases h
    rw [← List.reverse_reverse l, hl, List.reverse_cons, List.reverse_cons, List.append_assoc]
    rfl
  · intro h; cases h
def cx_way (l : List Frame) : Bool := match cx_under l with
  | some (.throwing _, r) => !r.isEmpty
  | some _ => true
  | none => false
def cx_end (l : List Frame) : Bool := match cx_under l with
  | some (.throwing _, []) => true
  | _ => false
theorem cx_way_eq {s : State} (h : cx_way s.frames = true) : Within s Lib.HandBits.below0 := by
  cases hu : cx_under s.frames with
  | none => simp [cx_way, hu] at h
  | some q =>
    obtain ⟨a, r⟩ := q
    refine ⟨r.reverse ++ [a], by rw [cx_under_eq hu]; simp, by simp, ?_⟩
    intro b hb
    cases r with
    | nil => cases hb; simp [cx_way, hu] at h
    | cons c r =>
      have hlen := congrArg List.length hb
      simp at hlen
theorem cx_end_eq {s : State} (h : cx_end s.frames = true) : ∃ a, s.frames = .throwing a :: Lib.HandBits.below0 := by
  unfold cx_end at h
  split at h
  · rename_i a hu; exact ⟨a, cx_under_eq hu⟩
  · cases h
def cx_on (s : State) : Bool := match s.status, s.curStatus?, s.alone with
  | .running, some .runnable, true => true
  | _, _, _ => false
/-- n steps, each from a state in which the thread goes on and the call is under way, and then the exception has left the call. -/
def cx_run (tb : Tables) (e : Env) : Nat → State → Bool
  | 0, s => cx_on s && cx_end s.frames
  | n + 1, s => cx_on s && (cx_way s.frames && cx_run tb e n (stepThread tb e s).1)
theorem cx_next {tb : Tables} {e : Env} {s : State} (h : cx_on s = true) : s.status = .running ∧ ∀ j, stepsAlone tb e (j + 1) s = stepsAlone tb e j (stepThread tb e s).1 := by
  unfold cx_on at h
  split at h
  · rename_i h1 h2 h3; exact ⟨h1, fun j => by simp only [stepsAlone, h1, h2, h3]⟩
  · cases h
theorem cx_run_sound (tb : Tables) (e : Env) : ∀ (n : Nat) (s : State), cx_run tb e n s = true →
    (∀ j, j < n → Within (stepsAlone tb e j s) Lib.HandBits.below0) ∧ (stepsAlone tb e n s).status = .running ∧ ∃ a, (stepsAlone tb e n s).frames = .throwing a :: Lib.HandBits.below0
  | 0, s, h => by
    simp only [cx_run, Bool.and_eq_true] at h
    exact ⟨fun j hj => absurd hj (Nat.not_lt_zero j), (cx_next (tb := tb) (e := e) h.1).1, cx_end_eq h.2⟩
  | n + 1, s, h => by
    simp only [cx_run, Bool.and_eq_true] at h
    obtain ⟨h1, h2, h3⟩ := h
    obtain ⟨-, hn⟩ := cx_next (tb := tb) (e := e) h1
    obtain ⟨i1, i2⟩ := cx_run_sound tb e n _ h3
    refine ⟨fun j hj => ?_, by rw [hn]; exact i2⟩
    match j, hj with
    | 0, _ => exact cx_way_eq h2
    | j + 1, hj => rw [hn]; exact i1 j (Nat.lt_of_succ_lt_succ hj)
theorem cx_throws : cx_run start1.p0.tables start1.e0 23 cx_about = true := by decide +kernel
/-- The Statement's own word for a refutation, of its first half: at this start the law ends, and throws. -/
theorem cx_refuted_1 : RefutedClaimed_1_1 := by
  obtain ⟨hw, hs, a, hf⟩ := cx_run_sound start1.p0.tables start1.e0 23 cx_about cx_throws
  refine ⟨launch0, start1.p0, start1.e0, cx_about, ⟨0, 0⟩, start1.args0, Lib.HandBits.below0, rfl, cx_atStart, 23, .threw a, hw, hs, hf, ?_⟩
  intro h
  exact absurd h.1 (by simp [Jvm.D.postC, limb_1_1, Cond.after, Cond.holds, Cond.value])
theorem cx_refuted_2 : RefutedClaimed_1_2 := by
  obtain ⟨hw, hs, a, hf⟩ := cx_run_sound start1.p0.tables start1.e0 23 cx_about cx_throws
  refine ⟨launch0, start1.p0, start1.e0, cx_about, ⟨0, 0⟩, start1.args0, Lib.HandBits.below0, rfl, cx_atStart, 23, .threw a, hw, hs, hf, ?_⟩
  intro h
  exact absurd h.1 (by simp [Jvm.D.postC, limb_1_2, Cond.after, Cond.holds, Cond.value, Term.eval])
/-- So neither half has a proof, nor has what is owed. -/
theorem cx_not_1 : ¬ Claimed_1_1 := by
  intro h
  obtain ⟨hw, -, a, hf⟩ := cx_run_sound start1.p0.tables start1.e0 23 cx_about cx_throws
  obtain ⟨hL, hW, h1, -, h2, h3, h4, h5, h6, h7, h8⟩ := cx_atStart
  obtain ⟨n, o, hw', -, he, hp⟩ := h launch0 rfl hL hW start1.p0 start1.e0 h1 h2 h3 cx_about ⟨0, 0⟩ start1.args0 Lib.HandBits.below0 h4 h5 h6 h7 h8
  obtain ⟨-, rfl⟩ := the_end_unique (f := fun k => stepsAlone start1.p0.tables start1.e0 k cx_about) hw (o := .threw a) hf hw' he
  exact absurd hp.1 (by simp [Jvm.D.postC, limb_1_1, Cond.after, Cond.holds, Cond.value])
theorem cx_not : ¬ (Claimed_1_1 ∧ Claimed_1_2) := fun h => cx_not_1 h.1
#print axioms cx_refuted_1
#print axioms cx_refuted_2
#print axioms cx_not
end Jvm.Pilot.CSkyAdvisorLaw_law_r6016_4850f8
