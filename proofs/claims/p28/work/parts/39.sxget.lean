noncomputable section
/-! lists as the kernel likes them: by their recursor alone -/
def sx_get {α : Type} (l : List α) : Nat → Option α := @List.rec α (fun _ => Nat → Option α) (fun _ => none) (fun a _ ih n => @Nat.rec (fun _ => Option α) (some a) (fun m _ => ih m) n) l
def sx_set {α : Type} (l : List α) (x : α) : Nat → List α := @List.rec α (fun _ => Nat → List α) (fun _ => []) (fun a r ih n => @Nat.rec (fun _ => List α) (x :: r) (fun m _ => a :: ih m) n) l
theorem sx_get_eq {α : Type} : ∀ (l : List α) (n : Nat), sx_get l n = l[n]?
  | [], n => List.getElem?_nil.symm
  | a :: l, 0 => rfl
  | a :: l, n + 1 => by
    rw [List.getElem?_cons_succ]
    exact sx_get_eq l n
theorem sx_set_eq {α : Type} : ∀ (l : List α) (x : α) (n : Nat), sx_set l x n = l.set n x
  | [], x, n => rfl
  | a :: l, x, 0 => rfl
  | a :: l, x, n + 1 => by
    rw [List.set_cons_succ, ← sx_set_eq l x n]
    rfl
end
