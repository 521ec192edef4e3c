/-! the longs stay -/
theorem up2_ {M M' : mM} {c : rf} {j : Nat} {x : Int32} (h : M' = up M c j x) : M'.2 = M.2 := by rw [h]; rfl
theorem LST_X1_work_4 {b : Nat} {w : Nat} {b2 : Nat} {Mz : mM} {v3_4 : Int32} {v2_4 : Int32} {M_4 : mM} {v3_4y : Int32} {v2_4y : Int32} {M_4y : mM} (h : ST_X1_work_4 b w b2 Mz v3_4 v2_4 M_4 v3_4y v2_4y M_4y) : M_4y.2 = M_4.2 := by
  refine xE_ST_X1_work_4 h (fun hv0_4 hv1_4 hv2_4 _ hF_4 z2_ e3_ h4_ h8_ j14_ h15_ z12_ e13_ z16_ h17_ => ⟨(fun h18_ => ⟨(fun h19_ => ⟨(fun h20_ => ⟨(fun h21_ z22_ h23_ hq_v3_4y hq_v2_4y hM_ => ?_), (fun h21_ z24_ h25_ z26_ h27_ j30_ h31_ z28_ e29_ j34_ h35_ z32_ e33_ z36_ h37_ => ⟨(fun e38_ z39_ h40_ z41_ h42_ j45_ h46_ M43_ hM44_ z49_ h50_ hq_v3_4y hq_v2_4y hM_ => ?_), (fun e38_ z51_ h52_ z53_ h54_ j57_ h58_ M55_ hM56_ z61_ h62_ hq_v3_4y hq_v2_4y hM_ => ?_), (fun e38_ => ⟨(fun h63_ z64_ h65_ z66_ h67_ j70_ h71_ M68_ hM69_ z74_ h75_ hq_v3_4y hq_v2_4y hM_ => ?_), (fun h63_ z76_ h77_ j80_ h81_ M78_ hM79_ z84_ h85_ hq_v3_4y hq_v2_4y hM_ => ?_)⟩), (fun e38_ z86_ h87_ z88_ h89_ j92_ h93_ M90_ hM91_ z96_ h97_ hq_v3_4y hq_v2_4y hM_ => ?_), (fun e38_ => ⟨(fun h98_ z99_ h100_ z101_ h102_ j105_ h106_ M103_ hM104_ z109_ h110_ hq_v3_4y hq_v2_4y hM_ => ?_), (fun h98_ z111_ h112_ j115_ h116_ M113_ hM114_ z119_ h120_ hq_v3_4y hq_v2_4y hM_ => ?_)⟩), (fun e38_ => ⟨(fun h121_ z122_ h123_ z124_ h125_ j128_ h129_ M126_ hM127_ z132_ h133_ hq_v3_4y hq_v2_4y hM_ => ?_), (fun h121_ z134_ h135_ j138_ h139_ M136_ hM137_ z142_ h143_ hq_v3_4y hq_v2_4y hM_ => ?_)⟩), (fun e38_ => ⟨(fun h144_ z145_ h146_ z147_ h148_ j151_ h152_ M149_ hM150_ z155_ h156_ hq_v3_4y hq_v2_4y hM_ => ?_), (fun h144_ z157_ h158_ j161_ h162_ M159_ hM160_ z165_ h166_ hq_v3_4y hq_v2_4y hM_ => ?_)⟩), (fun e38_ => ⟨(fun h167_ z168_ h169_ z170_ h171_ j174_ h175_ M172_ hM173_ z178_ h179_ hq_v3_4y hq_v2_4y hM_ => ?_), (fun h167_ z180_ h181_ j184_ h185_ M182_ hM183_ z188_ h189_ hq_v3_4y hq_v2_4y hM_ => ?_)⟩), (fun e38_ => ⟨(fun h190_ z191_ h192_ z193_ h194_ j197_ h198_ M195_ hM196_ z201_ h202_ hq_v3_4y hq_v2_4y hM_ => ?_), (fun h190_ z203_ h204_ j207_ h208_ M205_ hM206_ z211_ h212_ hq_v3_4y hq_v2_4y hM_ => ?_)⟩), (fun e38_ => ⟨(fun h213_ z214_ h215_ z216_ h217_ j220_ h221_ M218_ hM219_ z224_ h225_ hq_v3_4y hq_v2_4y hM_ => ?_), (fun h213_ z226_ h227_ j230_ h231_ M228_ hM229_ z234_ h235_ hq_v3_4y hq_v2_4y hM_ => ?_)⟩), (fun e38_ => ⟨(fun h236_ z237_ h238_ z239_ h240_ j243_ h244_ M241_ hM242_ z247_ h248_ hq_v3_4y hq_v2_4y hM_ => ?_), (fun h236_ z249_ h250_ j253_ h254_ M251_ hM252_ z257_ h258_ hq_v3_4y hq_v2_4y hM_ => ?_)⟩), (fun e38_ => ⟨(fun h259_ z260_ h261_ z262_ h263_ j266_ h267_ M264_ hM265_ z270_ h271_ hq_v3_4y hq_v2_4y hM_ => ?_), (fun h259_ z272_ h273_ j276_ h277_ M274_ hM275_ z280_ h281_ hq_v3_4y hq_v2_4y hM_ => ?_)⟩), (fun e38_ => ⟨(fun h282_ z283_ h284_ z285_ h286_ j289_ h290_ M287_ hM288_ z293_ h294_ hq_v3_4y hq_v2_4y hM_ => ?_), (fun h282_ z295_ h296_ j299_ h300_ M297_ hM298_ z303_ h304_ hq_v3_4y hq_v2_4y hM_ => ?_)⟩), (fun e38_ => ⟨(fun h305_ z306_ h307_ z308_ h309_ j312_ h313_ M310_ hM311_ z316_ h317_ hq_v3_4y hq_v2_4y hM_ => ?_), (fun h305_ z318_ h319_ j322_ h323_ M320_ hM321_ z326_ h327_ hq_v3_4y hq_v2_4y hM_ => ?_)⟩), (fun e38_ => ⟨(fun h328_ z329_ h330_ z331_ h332_ j335_ h336_ M333_ hM334_ z339_ h340_ hq_v3_4y hq_v2_4y hM_ => ?_), (fun h328_ z341_ h342_ j345_ h346_ M343_ hM344_ z349_ h350_ hq_v3_4y hq_v2_4y hM_ => ?_)⟩), (fun e38_ => ⟨(fun h351_ z352_ h353_ z354_ h355_ j358_ h359_ M356_ hM357_ z362_ h363_ hq_v3_4y hq_v2_4y hM_ => ?_), (fun h351_ z364_ h365_ j368_ h369_ M366_ hM367_ z372_ h373_ hq_v3_4y hq_v2_4y hM_ => ?_)⟩), (fun e38_ => ⟨(fun h374_ z375_ h376_ z377_ h378_ j381_ h382_ M379_ hM380_ z385_ h386_ hq_v3_4y hq_v2_4y hM_ => ?_), (fun h374_ z387_ h388_ j391_ h392_ M389_ hM390_ z395_ h396_ hq_v3_4y hq_v2_4y hM_ => ?_)⟩), (fun e38_ => ⟨(fun h397_ z398_ h399_ z400_ h401_ j404_ h405_ M402_ hM403_ z408_ h409_ hq_v3_4y hq_v2_4y hM_ => ?_), (fun h397_ z410_ h411_ j414_ h415_ M412_ hM413_ z418_ h419_ hq_v3_4y hq_v2_4y hM_ => ?_)⟩), (fun e38_ => ⟨(fun h420_ z421_ h422_ j425_ h426_ M423_ hM424_ z429_ h430_ hq_v3_4y hq_v2_4y hM_ => ?_), (fun h420_ z431_ h432_ j435_ h436_ M433_ hM434_ z439_ h440_ hq_v3_4y hq_v2_4y hM_ => ?_)⟩), (fun e38_ => ⟨(fun h441_ z442_ h443_ j446_ h447_ M444_ hM445_ z450_ h451_ hq_v3_4y hq_v2_4y hM_ => ?_), (fun h441_ z452_ h453_ j456_ h457_ M454_ hM455_ z460_ h461_ hq_v3_4y hq_v2_4y hM_ => ?_)⟩), (fun e38_ => ⟨(fun h462_ z463_ h464_ j467_ h468_ M465_ hM466_ z471_ h472_ hq_v3_4y hq_v2_4y hM_ => ?_), (fun h462_ z473_ h474_ j477_ h478_ M475_ hM476_ z481_ h482_ hq_v3_4y hq_v2_4y hM_ => ?_)⟩), (fun e38_ => ⟨(fun h483_ z484_ h485_ z486_ h487_ j490_ h491_ M488_ hM489_ z494_ h495_ hq_v3_4y hq_v2_4y hM_ => ?_), (fun h483_ z496_ h497_ j500_ h501_ M498_ hM499_ z504_ h505_ hq_v3_4y hq_v2_4y hM_ => ?_)⟩)⟩)⟩), (fun h20_ => ⟨(fun h506_ => ⟨(fun h507_ z508_ h509_ hq_v3_4y hq_v2_4y hM_ => ?_), (fun h507_ z510_ h511_ z512_ h513_ j516_ h517_ z514_ e515_ j520_ h521_ z518_ e519_ z522_ h523_ => ⟨(fun h524_ z525_ h526_ z527_ h528_ j531_ h532_ M529_ hM530_ z535_ h536_ hq_v3_4y hq_v2_4y hM_ => ?_), (fun h524_ z537_ h538_ j541_ h542_ M539_ hM540_ z545_ h546_ hq_v3_4y hq_v2_4y hM_ => ?_)⟩)⟩), (fun h506_ z547_ h548_ z549_ h550_ z551_ h552_ j555_ h556_ z553_ e554_ => ⟨(fun h557_ z558_ h559_ j562_ h563_ z560_ e561_ j566_ h567_ M564_ hM565_ z570_ h571_ hq_v3_4y hq_v2_4y hM_ => ?_), (fun h557_ j574_ h575_ z572_ e573_ j578_ h579_ M576_ hM577_ z582_ h583_ hq_v3_4y hq_v2_4y hM_ => ?_)⟩)⟩)⟩), (fun h19_ => ⟨(fun h584_ h585_ h586_ z587_ h588_ hq_v3_4y hq_v2_4y hM_ => ?_), (fun h584_ z589_ h590_ z591_ h592_ j595_ h596_ z593_ e594_ z597_ h598_ j601_ h602_ M599_ hM600_ z605_ h606_ hq_v3_4y hq_v2_4y hM_ => ?_)⟩)⟩), (fun h18_ => ⟨(fun h607_ h608_ h609_ h610_ z611_ h612_ z613_ h614_ j617_ h618_ z615_ e616_ j621_ h622_ z619_ e620_ z623_ h624_ => ⟨(fun e625_ z626_ h627_ z628_ h629_ j632_ h633_ M630_ hM631_ z636_ h637_ hq_v3_4y hq_v2_4y hM_ => ?_), (fun e625_ z638_ h639_ z640_ h641_ j644_ h645_ M642_ hM643_ z648_ h649_ hq_v3_4y hq_v2_4y hM_ => ?_), (fun e625_ => ⟨(fun h650_ z651_ h652_ z653_ h654_ j657_ h658_ M655_ hM656_ z661_ h662_ hq_v3_4y hq_v2_4y hM_ => ?_), (fun h650_ z663_ h664_ j667_ h668_ M665_ hM666_ z671_ h672_ hq_v3_4y hq_v2_4y hM_ => ?_)⟩), (fun e625_ z673_ h674_ z675_ h676_ j679_ h680_ M677_ hM678_ z683_ h684_ hq_v3_4y hq_v2_4y hM_ => ?_), (fun e625_ => ⟨(fun h685_ z686_ h687_ z688_ h689_ j692_ h693_ M690_ hM691_ z696_ h697_ hq_v3_4y hq_v2_4y hM_ => ?_), (fun h685_ z698_ h699_ j702_ h703_ M700_ hM701_ z706_ h707_ hq_v3_4y hq_v2_4y hM_ => ?_)⟩), (fun e625_ => ⟨(fun h708_ z709_ h710_ z711_ h712_ j715_ h716_ M713_ hM714_ z719_ h720_ hq_v3_4y hq_v2_4y hM_ => ?_), (fun h708_ z721_ h722_ j725_ h726_ M723_ hM724_ z729_ h730_ hq_v3_4y hq_v2_4y hM_ => ?_)⟩), (fun e625_ => ⟨(fun h731_ z732_ h733_ z734_ h735_ j738_ h739_ M736_ hM737_ z742_ h743_ hq_v3_4y hq_v2_4y hM_ => ?_), (fun h731_ z744_ h745_ j748_ h749_ M746_ hM747_ z752_ h753_ hq_v3_4y hq_v2_4y hM_ => ?_)⟩), (fun e625_ => ⟨(fun h754_ z755_ h756_ z757_ h758_ j761_ h762_ M759_ hM760_ z765_ h766_ hq_v3_4y hq_v2_4y hM_ => ?_), (fun h754_ z767_ h768_ j771_ h772_ M769_ hM770_ z775_ h776_ hq_v3_4y hq_v2_4y hM_ => ?_)⟩), (fun e625_ => ⟨(fun h777_ z778_ h779_ z780_ h781_ j784_ h785_ M782_ hM783_ z788_ h789_ hq_v3_4y hq_v2_4y hM_ => ?_), (fun h777_ z790_ h791_ j794_ h795_ M792_ hM793_ z798_ h799_ hq_v3_4y hq_v2_4y hM_ => ?_)⟩), (fun e625_ => ⟨(fun h800_ z801_ h802_ z803_ h804_ j807_ h808_ M805_ hM806_ z811_ h812_ hq_v3_4y hq_v2_4y hM_ => ?_), (fun h800_ z813_ h814_ j817_ h818_ M815_ hM816_ z821_ h822_ hq_v3_4y hq_v2_4y hM_ => ?_)⟩), (fun e625_ => ⟨(fun h823_ z824_ h825_ z826_ h827_ j830_ h831_ M828_ hM829_ z834_ h835_ hq_v3_4y hq_v2_4y hM_ => ?_), (fun h823_ z836_ h837_ j840_ h841_ M838_ hM839_ z844_ h845_ hq_v3_4y hq_v2_4y hM_ => ?_)⟩), (fun e625_ => ⟨(fun h846_ z847_ h848_ z849_ h850_ j853_ h854_ M851_ hM852_ z857_ h858_ hq_v3_4y hq_v2_4y hM_ => ?_), (fun h846_ z859_ h860_ j863_ h864_ M861_ hM862_ z867_ h868_ hq_v3_4y hq_v2_4y hM_ => ?_)⟩), (fun e625_ => ⟨(fun h869_ z870_ h871_ z872_ h873_ j876_ h877_ M874_ hM875_ z880_ h881_ hq_v3_4y hq_v2_4y hM_ => ?_), (fun h869_ z882_ h883_ j886_ h887_ M884_ hM885_ z890_ h891_ hq_v3_4y hq_v2_4y hM_ => ?_)⟩), (fun e625_ => ⟨(fun h892_ z893_ h894_ z895_ h896_ j899_ h900_ M897_ hM898_ z903_ h904_ hq_v3_4y hq_v2_4y hM_ => ?_), (fun h892_ z905_ h906_ j909_ h910_ M907_ hM908_ z913_ h914_ hq_v3_4y hq_v2_4y hM_ => ?_)⟩), (fun e625_ => ⟨(fun h915_ z916_ h917_ z918_ h919_ j922_ h923_ M920_ hM921_ z926_ h927_ hq_v3_4y hq_v2_4y hM_ => ?_), (fun h915_ z928_ h929_ j932_ h933_ M930_ hM931_ z936_ h937_ hq_v3_4y hq_v2_4y hM_ => ?_)⟩), (fun e625_ => ⟨(fun h938_ z939_ h940_ z941_ h942_ j945_ h946_ M943_ hM944_ z949_ h950_ hq_v3_4y hq_v2_4y hM_ => ?_), (fun h938_ z951_ h952_ j955_ h956_ M953_ hM954_ z959_ h960_ hq_v3_4y hq_v2_4y hM_ => ?_)⟩), (fun e625_ => ⟨(fun h961_ z962_ h963_ z964_ h965_ j968_ h969_ M966_ hM967_ z972_ h973_ hq_v3_4y hq_v2_4y hM_ => ?_), (fun h961_ z974_ h975_ j978_ h979_ M976_ hM977_ z982_ h983_ hq_v3_4y hq_v2_4y hM_ => ?_)⟩), (fun e625_ => ⟨(fun h984_ z985_ h986_ z987_ h988_ j991_ h992_ M989_ hM990_ z995_ h996_ hq_v3_4y hq_v2_4y hM_ => ?_), (fun h984_ z997_ h998_ j1001_ h1002_ M999_ hM1000_ z1005_ h1006_ hq_v3_4y hq_v2_4y hM_ => ?_)⟩), (fun e625_ => ⟨(fun h1007_ z1008_ h1009_ j1012_ h1013_ M1010_ hM1011_ z1016_ h1017_ hq_v3_4y hq_v2_4y hM_ => ?_), (fun h1007_ z1018_ h1019_ j1022_ h1023_ M1020_ hM1021_ z1026_ h1027_ hq_v3_4y hq_v2_4y hM_ => ?_)⟩), (fun e625_ => ⟨(fun h1028_ z1029_ h1030_ j1033_ h1034_ M1031_ hM1032_ z1037_ h1038_ hq_v3_4y hq_v2_4y hM_ => ?_), (fun h1028_ z1039_ h1040_ j1043_ h1044_ M1041_ hM1042_ z1047_ h1048_ hq_v3_4y hq_v2_4y hM_ => ?_)⟩), (fun e625_ => ⟨(fun h1049_ z1050_ h1051_ j1054_ h1055_ M1052_ hM1053_ z1058_ h1059_ hq_v3_4y hq_v2_4y hM_ => ?_), (fun h1049_ z1060_ h1061_ j1064_ h1065_ M1062_ hM1063_ z1068_ h1069_ hq_v3_4y hq_v2_4y hM_ => ?_)⟩), (fun e625_ => ⟨(fun h1070_ z1071_ h1072_ z1073_ h1074_ j1077_ h1078_ M1075_ hM1076_ z1081_ h1082_ hq_v3_4y hq_v2_4y hM_ => ?_), (fun h1070_ z1083_ h1084_ j1087_ h1088_ M1085_ hM1086_ z1091_ h1092_ hq_v3_4y hq_v2_4y hM_ => ?_)⟩)⟩), (fun h607_ => ⟨(fun h1093_ => ⟨(fun h1094_ j1097_ h1098_ M1095_ hM1096_ z1101_ h1102_ z1103_ h1104_ hq_v3_4y hq_v2_4y hM_ => ?_), (fun h1094_ j1107_ h1108_ z1105_ e1106_ j1111_ h1112_ M1109_ hM1110_ z1115_ h1116_ z1117_ h1118_ hq_v3_4y hq_v2_4y hM_ => ?_)⟩), (fun h1093_ j1121_ h1122_ M1119_ hM1120_ z1125_ h1126_ z1127_ h1128_ hq_v3_4y hq_v2_4y hM_ => ?_)⟩)⟩)⟩)
  · rw [hM_]
  · rw [hM_]
    exact (up2_ hM44_)
  · rw [hM_]
    exact (up2_ hM56_)
  · rw [hM_]
    exact (up2_ hM69_)
  · rw [hM_]
    exact (up2_ hM79_)
  · rw [hM_]
    exact (up2_ hM91_)
  · rw [hM_]
    exact (up2_ hM104_)
  · rw [hM_]
    exact (up2_ hM114_)
  · rw [hM_]
    exact (up2_ hM127_)
  · rw [hM_]
    exact (up2_ hM137_)
  · rw [hM_]
    exact (up2_ hM150_)
  · rw [hM_]
    exact (up2_ hM160_)
  · rw [hM_]
    exact (up2_ hM173_)
  · rw [hM_]
    exact (up2_ hM183_)
  · rw [hM_]
    exact (up2_ hM196_)
  · rw [hM_]
    exact (up2_ hM206_)
  · rw [hM_]
    exact (up2_ hM219_)
  · rw [hM_]
    exact (up2_ hM229_)
  · rw [hM_]
    exact (up2_ hM242_)
  · rw [hM_]
    exact (up2_ hM252_)
  · rw [hM_]
    exact (up2_ hM265_)
  · rw [hM_]
    exact (up2_ hM275_)
  · rw [hM_]
    exact (up2_ hM288_)
  · rw [hM_]
    exact (up2_ hM298_)
  · rw [hM_]
    exact (up2_ hM311_)
  · rw [hM_]
    exact (up2_ hM321_)
  · rw [hM_]
    exact (up2_ hM334_)
  · rw [hM_]
    exact (up2_ hM344_)
  · rw [hM_]
    exact (up2_ hM357_)
  · rw [hM_]
    exact (up2_ hM367_)
  · rw [hM_]
    exact (up2_ hM380_)
  · rw [hM_]
    exact (up2_ hM390_)
  · rw [hM_]
    exact (up2_ hM403_)
  · rw [hM_]
    exact (up2_ hM413_)
  · rw [hM_]
    exact (up2_ hM424_)
  · rw [hM_]
    exact (up2_ hM434_)
  · rw [hM_]
    exact (up2_ hM445_)
  · rw [hM_]
    exact (up2_ hM455_)
  · rw [hM_]
    exact (up2_ hM466_)
  · rw [hM_]
    exact (up2_ hM476_)
  · rw [hM_]
    exact (up2_ hM489_)
  · rw [hM_]
    exact (up2_ hM499_)
  · rw [hM_]
  · rw [hM_]
    exact (up2_ hM530_)
  · rw [hM_]
    exact (up2_ hM540_)
  · rw [hM_]
    exact (up2_ hM565_)
  · rw [hM_]
    exact (up2_ hM577_)
  · rw [hM_]
  · rw [hM_]
    exact (up2_ hM600_)
  · rw [hM_]
    exact (up2_ hM631_)
  · rw [hM_]
    exact (up2_ hM643_)
  · rw [hM_]
    exact (up2_ hM656_)
  · rw [hM_]
    exact (up2_ hM666_)
  · rw [hM_]
    exact (up2_ hM678_)
  · rw [hM_]
    exact (up2_ hM691_)
  · rw [hM_]
    exact (up2_ hM701_)
  · rw [hM_]
    exact (up2_ hM714_)
  · rw [hM_]
    exact (up2_ hM724_)
  · rw [hM_]
    exact (up2_ hM737_)
  · rw [hM_]
    exact (up2_ hM747_)
  · rw [hM_]
    exact (up2_ hM760_)
  · rw [hM_]
    exact (up2_ hM770_)
  · rw [hM_]
    exact (up2_ hM783_)
  · rw [hM_]
    exact (up2_ hM793_)
  · rw [hM_]
    exact (up2_ hM806_)
  · rw [hM_]
    exact (up2_ hM816_)
  · rw [hM_]
    exact (up2_ hM829_)
  · rw [hM_]
    exact (up2_ hM839_)
  · rw [hM_]
    exact (up2_ hM852_)
  · rw [hM_]
    exact (up2_ hM862_)
  · rw [hM_]
    exact (up2_ hM875_)
  · rw [hM_]
    exact (up2_ hM885_)
  · rw [hM_]
    exact (up2_ hM898_)
  · rw [hM_]
    exact (up2_ hM908_)
  · rw [hM_]
    exact (up2_ hM921_)
  · rw [hM_]
    exact (up2_ hM931_)
  · rw [hM_]
    exact (up2_ hM944_)
  · rw [hM_]
    exact (up2_ hM954_)
  · rw [hM_]
    exact (up2_ hM967_)
  · rw [hM_]
    exact (up2_ hM977_)
  · rw [hM_]
    exact (up2_ hM990_)
  · rw [hM_]
    exact (up2_ hM1000_)
  · rw [hM_]
    exact (up2_ hM1011_)
  · rw [hM_]
    exact (up2_ hM1021_)
  · rw [hM_]
    exact (up2_ hM1032_)
  · rw [hM_]
    exact (up2_ hM1042_)
  · rw [hM_]
    exact (up2_ hM1053_)
  · rw [hM_]
    exact (up2_ hM1063_)
  · rw [hM_]
    exact (up2_ hM1076_)
  · rw [hM_]
    exact (up2_ hM1086_)
  · rw [hM_]
    exact (up2_ hM1096_)
  · rw [hM_]
    exact (up2_ hM1110_)
  · rw [hM_]
    exact (up2_ hM1120_)
theorem LSP_X1_work {b : Nat} {w : Nat} {b2 : Nat} {Mz : mM} {r_ : Int32} {M_ : mM} (h : SP_X1_work b w b2 Mz r_ M_) : M_.2 = Mz.2 := by
  refine xE_SP_X1_work h (fun v3_4 hv0_4 v2_4 hv1_4 hv2_4 M_4 hL_4 _ hF_4 z2_ e3_ => ⟨(fun h4_ => ⟨(fun h5_ hr_ hM_ => ?_), (fun h5_ z6_ e7_ hr_ hM_ => ?_)⟩), (fun h4_ h8_ => ⟨(fun h9_ hr_ hM_ => ?_), (fun h9_ z10_ e11_ hr_ hM_ => ?_)⟩)⟩)
  · rw [hM_]
    have l1_ := rind hL_4 (fun z_ => z_.2.2.2 = Mz.2) rfl (fun x_ z_ h1_ h2_ => (LST_X1_work_4 h2_).trans h1_)
    exact (show M_4.2 = Mz.2 from l1_)
  · rw [hM_]
    have l1_ := rind hL_4 (fun z_ => z_.2.2.2 = Mz.2) rfl (fun x_ z_ h1_ h2_ => (LST_X1_work_4 h2_).trans h1_)
    exact (show M_4.2 = Mz.2 from l1_)
  · rw [hM_]
    have l1_ := rind hL_4 (fun z_ => z_.2.2.2 = Mz.2) rfl (fun x_ z_ h1_ h2_ => (LST_X1_work_4 h2_).trans h1_)
    exact (show M_4.2 = Mz.2 from l1_)
  · rw [hM_]
    have l1_ := rind hL_4 (fun z_ => z_.2.2.2 = Mz.2) rfl (fun x_ z_ h1_ h2_ => (LST_X1_work_4 h2_).trans h1_)
    exact (show M_4.2 = Mz.2 from l1_)
theorem LSP_X2_strength {b : Nat} {v : Int32} {u : Int32} {t : Int32} {Mz : mM} {r_ : Int32} {M_ : mM} (h : SP_X2_strength b v u t Mz r_ M_) : M_.2 = Mz.2 := by
  refine xE_SP_X2_strength h (fun z1_ h2_ z3_ h4_ => ⟨(fun h5_ hr_ hM_ => ?_), (fun h5_ => ⟨(fun h6_ hr_ hM_ => ?_), (fun h6_ j9_ h10_ z7_ e8_ => ⟨(fun h11_ j14_ h15_ z12_ e13_ z16_ h17_ z18_ h19_ z20_ h21_ z22_ h23_ r24_ hs28_ h27_ => ⟨(fun h29_ z30_ h31_ z32_ h33_ z34_ e35_ => ⟨(fun h36_ hr_ hM_ => ?_), (fun h36_ z37_ h38_ hr_ hM_ => ?_)⟩), (fun h29_ M39_ hM40_ j45_ h46_ z43_ e44_ M47_ hM48_ M51_ hM52_ M55_ hM56_ _ M60_ _ hF64_ r59_ hs66_ z67_ h68_ z69_ h70_ z71_ e72_ => ⟨(fun h73_ hr_ hM_ => ?_), (fun h73_ z74_ h75_ hr_ hM_ => ?_)⟩)⟩), (fun h11_ hr_ hM_ => ?_)⟩)⟩)⟩)
  · rw [hM_]
  · rw [hM_]
  · rw [hM_]
  · rw [hM_]
  · rw [hM_]
    exact (LSP_X1_work hs66_).trans ((up2_ hM56_).trans ((up2_ hM52_).trans ((up2_ hM48_).trans ((up2_ hM40_)))))
  · rw [hM_]
    exact (LSP_X1_work hs66_).trans ((up2_ hM56_).trans ((up2_ hM52_).trans ((up2_ hM48_).trans ((up2_ hM40_)))))
  · rw [hM_]
theorem LSP_X2_isHeard {b : Nat} {v : Int32} {u : Int32} {t : Int32} {s : Int32} {Mz : mM} {r_ : Int32} {M_ : mM} (h : SP_X2_isHeard b v u t s Mz r_ M_) : M_.2 = Mz.2 := by
  refine xE_SP_X2_isHeard h (fun z1_ h2_ => ⟨(fun h3_ hr_ hM_ => ?_), (fun h3_ z4_ e5_ => ⟨(fun h6_ hr_ hM_ => ?_), (fun h6_ => ⟨(fun h7_ r8_ hs12_ h11_ => ⟨(fun h13_ M14_ hM15_ z18_ e19_ M20_ hM21_ M24_ hM25_ _ M29_ _ hF33_ r28_ hs35_ => ⟨(fun h36_ hr_ hM_ => ?_), (fun h36_ hr_ hM_ => ?_)⟩), (fun h13_ z37_ e38_ => ⟨(fun h39_ hr_ hM_ => ?_), (fun h39_ hr_ hM_ => ?_)⟩)⟩), (fun h7_ hr_ hM_ => ?_)⟩)⟩)⟩)
  · rw [hM_]
  · rw [hM_]
  · rw [hM_]
    exact (LSP_X1_work hs35_).trans ((up2_ hM25_).trans ((up2_ hM21_).trans ((up2_ hM15_))))
  · rw [hM_]
    exact (LSP_X1_work hs35_).trans ((up2_ hM25_).trans ((up2_ hM21_).trans ((up2_ hM15_))))
  · rw [hM_]
  · rw [hM_]
  · rw [hM_]
theorem LSP_X2_hears {b : Nat} {v : Int32} {u : Int32} {t : Int32} {s : Int32} {q : Int32} {Mz : mM} {r_ : Int32} {M_ : mM} (h : SP_X2_hears b v u t s q Mz r_ M_) : M_.2 = Mz.2 := by
  refine xE_SP_X2_hears h (fun r1_ hs5_ M7_ _ hF11_ r6_ hs13_ M15_ _ hF19_ r14_ hs21_ h17_ hr_ hM_ => ?_)
  · rw [hM_]
    exact (LSP_X2_isHeard hs21_).trans ((LSP_X2_strength hs13_))
theorem LSP_X10_heardYards {b : Nat} {v : Int32} {u : Int32} {t : Int32} {Mz : mM} {r_ : Int32} {M_ : mM} (h : SP_X10_heardYards b v u t Mz r_ M_) : M_.2 = Mz.2 := by
  refine xE_SP_X10_heardYards h (fun r1_ hs5_ h4_ => ⟨(fun h6_ hr_ hM_ => ?_), (fun h6_ => ⟨(fun hs11_ h10_ j13_ h14_ h15_ r16_ hs20_ h19_ r21_ hs25_ r26_ hs30_ h29_ r31_ hs35_ M37_ _ hF41_ r36_ hs43_ h39_ => ⟨(fun h44_ hr_ hM_ => ?_), (fun h44_ hr_ hM_ => ?_)⟩), (fun hs11_ hr_ hM_ => ?_)⟩)⟩)
  · rw [hM_]
  · rw [hM_]
    exact (LSP_X2_hears hs43_)
  · rw [hM_]
    exact (LSP_X2_hears hs43_)
  · rw [hM_]
